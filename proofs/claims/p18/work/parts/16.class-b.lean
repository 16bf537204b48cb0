set_option maxRecDepth 100000 in
set_option maxHeartbeats 8000000 in
theorem w_X0_isDirection_z {tS : jTS} (d : Nat) (V0 : jH) (x0 : Int32) (x1 : Int32) (hd : 1 ≤ d)  (hp0 : 0 ≤ x0.toInt) (hp1 : x0.toInt ≤ 3) : jTot tS mX0_isDirection d [.int x0, .int x1] V0 0 0 (fun r V => (fun r _ => ∃ y : Int32, r = some (.int y) ∧ (0 ≤ y.toInt) ∧ (y.toInt ≤ 1) ∧ ((y.toInt = 1 ∧ 0 ≤ x1.toInt ∧ x1.toInt < jdir x0.toInt) ∨ (y.toInt = 0 ∧ ¬ (0 ≤ x1.toInt ∧ x1.toInt < jdir x0.toInt)))) r V ∧ V = V0) := by
  refine jTot.of_J [some (.int x0), some (.int x1)] moX0_isDirection (Nat.le_of_ble_eq_true rfl) rfl ?_
  have hrx0 := j_rng x0
  have hrx1 := j_rng x1
  refine J_iload_n dX0_isDirection_0 rfl ?_
  refine Jz_if_lt (tgt := 16) jEq.rf dX0_isDirection_1 (by decide) (fun c1 => ?_) (fun c1 => ?_)
  · refine Jz_iconst 0 dX0_isDirection_16 (by decide) (fun y16 he16 => ?_)
    exact J_ret (r := some (.int _)) dX0_isDirection_17 ⟨rfl, _, rfl, (nar_b (by (try simp only [he16.eq, true_and, and_true]) <;> omega) (by (try simp only [he16.eq, true_and, and_true]) <;> omega))⟩ (⟨⟨_, rfl, (by (try simp only [he16.eq, true_and, and_true]) <;> omega), (by (try simp only [he16.eq, true_and, and_true]) <;> omega), (by (try simp only [he16.eq, true_and, and_true]) <;> omega)⟩, rfl⟩)
  · refine J_iload_n dX0_isDirection_4 rfl ?_
    refine J_iload_n dX0_isDirection_5 rfl ?_
    refine J_callS1 moX0_directions jw_ml_X0_9 jw_st_X0_directions dX0_isDirection_6 (w_X0_directions_z (d - 1) _ x0 (by omega)   ) (by omega) (Nat.zero_le _) (Nat.zero_le _) (Nat.le_of_ble_eq_true rfl) (fun r6 V6 h6 => ?_)
    obtain ⟨⟨y6, rfl, hl6, hh6, hP6_0⟩, hE6⟩ := h6
    have hE6 := hE6.symm
    subst hE6
    have hz6 : jEq y6.toInt (jdir (x0.toInt)) := hP6_0
    simp only [hP6_0] at hl6 hh6
    clear hP6_0
    refine Jz_icmp_ge (tgt := 16) jEq.rf hz6 dX0_isDirection_9 (by decide) (fun c9 => ?_) (fun c9 => ?_)
    · refine Jz_iconst 0 dX0_isDirection_16 (by decide) (fun y16 he16 => ?_)
      exact J_ret (r := some (.int _)) dX0_isDirection_17 ⟨rfl, _, rfl, (nar_b (by (try simp only [he16.eq, true_and, and_true]) <;> omega) (by (try simp only [he16.eq, true_and, and_true]) <;> omega))⟩ (⟨⟨_, rfl, (by (try simp only [he16.eq, true_and, and_true]) <;> omega), (by (try simp only [he16.eq, true_and, and_true]) <;> omega), (by (try simp only [he16.eq, true_and, and_true]) <;> omega)⟩, rfl⟩)
    · refine Jz_iconst 1 dX0_isDirection_12 (by decide) (fun y12 he12 => ?_)
      refine J_goto (tgt := 17) dX0_isDirection_13 (by decide) ?_
      exact J_ret (r := some (.int _)) dX0_isDirection_17 ⟨rfl, _, rfl, (nar_b (by (try simp only [he12.eq, true_and, and_true]) <;> omega) (by (try simp only [he12.eq, true_and, and_true]) <;> omega))⟩ (⟨⟨_, rfl, (by (try simp only [he12.eq, true_and, and_true]) <;> omega), (by (try simp only [he12.eq, true_and, and_true]) <;> omega), (by (try simp only [he12.eq, true_and, and_true]) <;> omega)⟩, rfl⟩)
set_option maxRecDepth 100000 in
set_option maxHeartbeats 8000000 in
theorem w_X0_turned_z {tS : jTS} (d : Nat) (V0 : jH) (x0 : Int32) (x1 : Int32) (x2 : Int32) (hd : 1 ≤ d)  (hp0 : 0 ≤ x0.toInt) (hp1 : x0.toInt ≤ 3) (hp2 : 0 ≤ x1.toInt) (hp3 : x1.toInt < jtur x0.toInt) (hp4 : 0 ≤ x2.toInt) (hp5 : x2.toInt < jdir x0.toInt) : jTot tS mX0_turned d [.int x0, .int x1, .int x2] V0 0 0 (fun r V => (fun r _ => ∃ y : Int32, r = some (.int y) ∧ ((-2147483648) ≤ y.toInt) ∧ (y.toInt ≤ 2147483647) ∧ (y.toInt = jtn x0.toInt x1.toInt x2.toInt)) r V ∧ V = V0) := by
  refine jTot.of_J [some (.int x0), some (.int x1), some (.int x2), none, none] moX0_turned (Nat.le_of_ble_eq_true rfl) rfl ?_
  have hrx0 := j_rng x0
  have hrx1 := j_rng x1
  have hrx2 := j_rng x2
  have hjd := jdir_cases x0.toInt
  have hjt := jtur_cases x0.toInt
  refine J_iload_n dX0_turned_0 rfl ?_
  refine Jz_iconst 2 dX0_turned_1 (by decide) (fun y1 he1 => ?_)
  refine Jz_icmp_ne (tgt := 7) jEq.rf he1 dX0_turned_2 (by decide) (fun c2 => ?_) (fun c2 => ?_)
  · refine J_iload_n dX0_turned_7 rfl ?_
    refine Jz_iconst 3 dX0_turned_8 (by decide) (fun y8 he8 => ?_)
    refine Jz_icmp_ne (tgt := 18) jEq.rf he8 dX0_turned_9 (by decide) (fun c9 => ?_) (fun c9 => ?_)
    · refine J_iload_n dX0_turned_18 rfl ?_
      refine J_callS1 moX0_directions jw_ml_X0_9 jw_st_X0_directions dX0_turned_19 (w_X0_directions_z (d - 1) _ x0 (by omega)   ) (by omega) (Nat.zero_le _) (Nat.zero_le _) (Nat.le_of_ble_eq_true rfl) (fun r19 V19 h19 => ?_)
      obtain ⟨⟨y19, rfl, hl19, hh19, hP19_0⟩, hE19⟩ := h19
      have hE19 := hE19.symm
      subst hE19
      have hz19 : jEq y19.toInt (jdir (x0.toInt)) := hP19_0
      simp only [hP19_0] at hl19 hh19
      clear hP19_0
      refine J_istore_n dX0_turned_22 rfl (by decide) ?_
      refine J_iload_n dX0_turned_23 rfl ?_
      refine J_iload_n dX0_turned_24 rfl ?_
      refine Jz_icmp_ge (tgt := 34) jEq.rf hz19 dX0_turned_25 (by decide) (fun c25 => ?_) (fun c25 => ?_)
      · refine J_iload_n dX0_turned_34 rfl ?_
        refine J_iload_n dX0_turned_35 rfl ?_
        refine Jz_isub jEq.rf jEq.rf dX0_turned_36 (by omega) (by omega) (fun y36 he36 => ?_)
        refine J_istore dX0_turned_37 rfl (by decide) ?_
        refine J_iload dX0_turned_39 rfl ?_
        refine J_iload_n dX0_turned_41 rfl ?_
        refine Jz_icmp_lt (tgt := 52) he36 hz19 dX0_turned_42 (by decide) (fun c42 => ?_) (fun c42 => ?_)
        · refine J_iload dX0_turned_52 rfl ?_
          exact J_ret (r := some (.int _)) dX0_turned_54 ⟨rfl, _, rfl, rfl⟩ (⟨⟨_, rfl, (j_rng _).1, (j_rng _).2, (by first | ((try simp only [he36.eq, true_and, and_true]) <;> omega) | ((try simp only [he36.eq]); unfold jtn; (repeat' split) <;> omega))⟩, rfl⟩)
        · refine J_iload dX0_turned_45 rfl ?_
          refine J_iload_n dX0_turned_47 rfl ?_
          refine Jz_isub he36 hz19 dX0_turned_48 (by omega) (by omega) (fun y48 he48 => ?_)
          refine J_goto (tgt := 54) dX0_turned_49 (by decide) ?_
          exact J_ret (r := some (.int _)) dX0_turned_54 ⟨rfl, _, rfl, rfl⟩ (⟨⟨_, rfl, (j_rng _).1, (j_rng _).2, (by first | ((try simp only [he48.eq, true_and, and_true]) <;> omega) | ((try simp only [he48.eq]); unfold jtn; (repeat' split) <;> omega))⟩, rfl⟩)
      · refine J_iload_n dX0_turned_28 rfl ?_
        refine J_iload_n dX0_turned_29 rfl ?_
        refine Jz_iadd jEq.rf jEq.rf dX0_turned_30 (by omega) (by omega) (fun y30 he30 => ?_)
        refine J_goto (tgt := 37) dX0_turned_31 (by decide) ?_
        refine J_istore dX0_turned_37 rfl (by decide) ?_
        refine J_iload dX0_turned_39 rfl ?_
        refine J_iload_n dX0_turned_41 rfl ?_
        refine Jz_icmp_lt (tgt := 52) he30 hz19 dX0_turned_42 (by decide) (fun c42 => ?_) (fun c42 => ?_)
        · refine J_iload dX0_turned_52 rfl ?_
          exact J_ret (r := some (.int _)) dX0_turned_54 ⟨rfl, _, rfl, rfl⟩ (⟨⟨_, rfl, (j_rng _).1, (j_rng _).2, (by first | ((try simp only [he30.eq, true_and, and_true]) <;> omega) | ((try simp only [he30.eq]); unfold jtn; (repeat' split) <;> omega))⟩, rfl⟩)
        · refine J_iload dX0_turned_45 rfl ?_
          refine J_iload_n dX0_turned_47 rfl ?_
          refine Jz_isub he30 hz19 dX0_turned_48 (by omega) (by omega) (fun y48 he48 => ?_)
          refine J_goto (tgt := 54) dX0_turned_49 (by decide) ?_
          exact J_ret (r := some (.int _)) dX0_turned_54 ⟨rfl, _, rfl, rfl⟩ (⟨⟨_, rfl, (j_rng _).1, (j_rng _).2, (by first | ((try simp only [he48.eq, true_and, and_true]) <;> omega) | ((try simp only [he48.eq]); unfold jtn; (repeat' split) <;> omega))⟩, rfl⟩)
    · refine J_iload_n dX0_turned_12 rfl ?_
      refine J_iload_n dX0_turned_13 rfl ?_
      refine J_callS2 moX0_turnedInCubes jw_ml_X0_29 jw_st_X0_turnedInCubes dX0_turned_14 (w_X0_turnedInCubes_z (d - 1) _ x1 x2 (by omega)   (by omega) (by omega) (by omega) (by omega)) (by omega) (Nat.zero_le _) (Nat.zero_le _) (Nat.le_of_ble_eq_true rfl) (fun r14 V14 h14 => ?_)
      obtain ⟨⟨y14, rfl, hl14, hh14, hP14_0⟩, hE14⟩ := h14
      have hE14 := hE14.symm
      subst hE14
      clear hl14 hh14
      have hz14 : jEq y14.toInt (jtc (x1.toInt) (x2.toInt)) := hP14_0
      clear hP14_0
      exact J_ret (r := some (.int _)) dX0_turned_17 ⟨rfl, _, rfl, rfl⟩ (⟨⟨_, rfl, (j_rng _).1, (j_rng _).2, (by first | ((try simp only [hz14.eq, true_and, and_true]) <;> omega) | ((try simp only [hz14.eq]); unfold jtn; (repeat' split) <;> omega))⟩, rfl⟩)
  · refine J_iload_n dX0_turned_5 rfl ?_
    exact J_ret (r := some (.int _)) dX0_turned_6 ⟨rfl, _, rfl, rfl⟩ (⟨⟨_, rfl, (j_rng _).1, (j_rng _).2, (by first | (omega) | (unfold jtn; (repeat' split) <;> omega))⟩, rfl⟩)
set_option maxRecDepth 100000 in
set_option maxHeartbeats 8000000 in
theorem w_X3_endX_z {tS : jTS} (d : Nat) (V0 : jH) {ln : Nat} (a0 : Nat) (M : Int32) (g : Int32) (n : Int32) (s : Nat) (xx : Nat) (yy : Nat) (zz : Nat) (S : Nat → Int32) (X : Nat → Int32) (Y : Nat → Int32) (Z : Nat → Int32) (hd : 1 ≤ d) (hW : WT V0) (ha0 : jis V0 (.inr 1) a0) (hf_M : jfI V0 a0 1 0 M) (hf_g : jfI V0 a0 1 5 g) (hf_n : jfI V0 a0 1 6 n) (hr_s : jfR V0 a0 1 1 s) (hr_xx : jfR V0 a0 1 2 xx) (hr_yy : jfR V0 a0 1 3 yy) (hr_zz : jfR V0 a0 1 4 zz) (ha_S : V0 s = some (.inl (6, ln, .inl S))) (ha_X : V0 xx = some (.inl (34, ln + 1, .inl X))) (ha_Y : V0 yy = some (.inl (35, ln + 1, .inl Y))) (ha_Z : V0 zz = some (.inl (36, ln + 1, .inl Z))) (hp0 : M.toInt = (ln : Int)) (hp1 : (ln : Int) ≤ 120) (hp2 : n.toInt ≤ M.toInt) : jTot tS mX3_endX d [.ref a0] V0 0 0 (fun r V => (fun r _ => ∃ y : Int32, r = some (.int y) ∧ ((-2147483648) ≤ y.toInt) ∧ (y.toInt ≤ 2147483647) ∧ (y.toInt = (X n.toInt.toNat).toInt)) r V ∧ V = V0) := by
  refine jTot.of_J [some (.ref a0)] moX3_endX (Nat.le_of_ble_eq_true rfl) rfl ?_
  have he : jeff [] V0 V0 := jeff.refl _ _
  obtain ⟨fs_a0, hO_a0, hK_a0⟩ := WT_obj hW id ha0
  have hF_M := hf_M.get hO_a0
  have hrM : 0 ≤ M.toInt ∧ M.toInt ≤ 120 := jok_rngI hK_a0 rfl hF_M
  have hF_g := hf_g.get hO_a0
  have hrg : (-2147483648) ≤ g.toInt ∧ g.toInt ≤ 2147483647 := jok_rngI hK_a0 rfl hF_g
  have hF_n := hf_n.get hO_a0
  have hrn : 0 ≤ n.toInt ∧ n.toInt ≤ 120 := jok_rngI hK_a0 rfl hF_n
  have hF_s := hr_s.get hO_a0
  obtain ⟨w_s, hFq_s, b_s, hbq_s, hb_s⟩ := hK_a0.2 1 (.inr (some (.inl 6))) rfl
  cases hF_s.symm.trans (hFq_s.trans (congrArg some hbq_s))
  have hF_xx := hr_xx.get hO_a0
  obtain ⟨w_xx, hFq_xx, b_xx, hbq_xx, hb_xx⟩ := hK_a0.2 2 (.inr (some (.inl 34))) rfl
  cases hF_xx.symm.trans (hFq_xx.trans (congrArg some hbq_xx))
  have hF_yy := hr_yy.get hO_a0
  obtain ⟨w_yy, hFq_yy, b_yy, hbq_yy, hb_yy⟩ := hK_a0.2 3 (.inr (some (.inl 35))) rfl
  cases hF_yy.symm.trans (hFq_yy.trans (congrArg some hbq_yy))
  have hF_zz := hr_zz.get hO_a0
  obtain ⟨w_zz, hFq_zz, b_zz, hbq_zz, hb_zz⟩ := hK_a0.2 4 (.inr (some (.inl 36))) rfl
  cases hF_zz.symm.trans (hFq_zz.trans (congrArg some hbq_zz))
  obtain ⟨hN_S, hv_S⟩ := WT_rngI (r := ((-2147483648), 2147483647)) hW id rfl ha_S
  clear hN_S
  obtain ⟨hN_X, hv_X⟩ := WT_rngI (r := ((-2147483648), 2147483647)) hW id rfl ha_X
  clear hN_X
  obtain ⟨hN_Y, hv_Y⟩ := WT_rngI (r := ((-2147483648), 2147483647)) hW id rfl ha_Y
  clear hN_Y
  obtain ⟨hN_Z, hv_Z⟩ := WT_rngI (r := ((-2147483648), 2147483647)) hW id rfl ha_Z
  clear hN_Z
  refine J_aload_n dX3_endX_0 rfl ?_
  refine J_get jf_X3_34 dX3_endX_1 hO_a0 hF_xx ?_
  refine J_aload_n dX3_endX_4 rfl ?_
  refine J_get jf_X3_15 dX3_endX_5 hO_a0 hF_n ?_
  refine J_callSN2 moX6_cell (host := "WalkGrounds") (List.mem_of_getElem? (i := 0) rfl) jw_st_X6_cell dX3_endX_8 (w_X6_cell_x (d - 1) _ xx n ha_X (WT_rngI (r := (-2147483648, 2147483647)) hW id rfl ha_X).1 rfl (by omega) (by omega)) (by omega) (Nat.zero_le _) (Nat.zero_le _) (Nat.le_of_ble_eq_true rfl) (fun r8 V8 h8 => ?_)
  obtain ⟨⟨y8, rfl, hf8⟩, hE8⟩ := h8
  have hE8 := hE8.symm
  subst hE8
  have hz8 : jEq y8.toInt (X (n.toInt).toNat).toInt := by rw [← hf8]; rfl
  clear hf8
  · exact J_ret (r := some (.int _)) dX3_endX_11 ⟨rfl, _, rfl, rfl⟩ (⟨⟨_, rfl, (j_rng _).1, (j_rng _).2, (by (try simp only [hz8.eq, true_and, and_true]) <;> omega)⟩, rfl⟩)
set_option maxRecDepth 100000 in
set_option maxHeartbeats 8000000 in
theorem w_X3_endY_z {tS : jTS} (d : Nat) (V0 : jH) {ln : Nat} (a0 : Nat) (M : Int32) (g : Int32) (n : Int32) (s : Nat) (xx : Nat) (yy : Nat) (zz : Nat) (S : Nat → Int32) (X : Nat → Int32) (Y : Nat → Int32) (Z : Nat → Int32) (hd : 1 ≤ d) (hW : WT V0) (ha0 : jis V0 (.inr 1) a0) (hf_M : jfI V0 a0 1 0 M) (hf_g : jfI V0 a0 1 5 g) (hf_n : jfI V0 a0 1 6 n) (hr_s : jfR V0 a0 1 1 s) (hr_xx : jfR V0 a0 1 2 xx) (hr_yy : jfR V0 a0 1 3 yy) (hr_zz : jfR V0 a0 1 4 zz) (ha_S : V0 s = some (.inl (6, ln, .inl S))) (ha_X : V0 xx = some (.inl (34, ln + 1, .inl X))) (ha_Y : V0 yy = some (.inl (35, ln + 1, .inl Y))) (ha_Z : V0 zz = some (.inl (36, ln + 1, .inl Z))) (hp0 : M.toInt = (ln : Int)) (hp1 : (ln : Int) ≤ 120) (hp2 : n.toInt ≤ M.toInt) : jTot tS mX3_endY d [.ref a0] V0 0 0 (fun r V => (fun r _ => ∃ y : Int32, r = some (.int y) ∧ ((-2147483648) ≤ y.toInt) ∧ (y.toInt ≤ 2147483647) ∧ (y.toInt = (Y n.toInt.toNat).toInt)) r V ∧ V = V0) := by
  refine jTot.of_J [some (.ref a0)] moX3_endY (Nat.le_of_ble_eq_true rfl) rfl ?_
  have he : jeff [] V0 V0 := jeff.refl _ _
  obtain ⟨fs_a0, hO_a0, hK_a0⟩ := WT_obj hW id ha0
  have hF_M := hf_M.get hO_a0
  have hrM : 0 ≤ M.toInt ∧ M.toInt ≤ 120 := jok_rngI hK_a0 rfl hF_M
  have hF_g := hf_g.get hO_a0
  have hrg : (-2147483648) ≤ g.toInt ∧ g.toInt ≤ 2147483647 := jok_rngI hK_a0 rfl hF_g
  have hF_n := hf_n.get hO_a0
  have hrn : 0 ≤ n.toInt ∧ n.toInt ≤ 120 := jok_rngI hK_a0 rfl hF_n
  have hF_s := hr_s.get hO_a0
  obtain ⟨w_s, hFq_s, b_s, hbq_s, hb_s⟩ := hK_a0.2 1 (.inr (some (.inl 6))) rfl
  cases hF_s.symm.trans (hFq_s.trans (congrArg some hbq_s))
  have hF_xx := hr_xx.get hO_a0
  obtain ⟨w_xx, hFq_xx, b_xx, hbq_xx, hb_xx⟩ := hK_a0.2 2 (.inr (some (.inl 34))) rfl
  cases hF_xx.symm.trans (hFq_xx.trans (congrArg some hbq_xx))
  have hF_yy := hr_yy.get hO_a0
  obtain ⟨w_yy, hFq_yy, b_yy, hbq_yy, hb_yy⟩ := hK_a0.2 3 (.inr (some (.inl 35))) rfl
  cases hF_yy.symm.trans (hFq_yy.trans (congrArg some hbq_yy))
  have hF_zz := hr_zz.get hO_a0
  obtain ⟨w_zz, hFq_zz, b_zz, hbq_zz, hb_zz⟩ := hK_a0.2 4 (.inr (some (.inl 36))) rfl
  cases hF_zz.symm.trans (hFq_zz.trans (congrArg some hbq_zz))
  obtain ⟨hN_S, hv_S⟩ := WT_rngI (r := ((-2147483648), 2147483647)) hW id rfl ha_S
  clear hN_S
  obtain ⟨hN_X, hv_X⟩ := WT_rngI (r := ((-2147483648), 2147483647)) hW id rfl ha_X
  clear hN_X
  obtain ⟨hN_Y, hv_Y⟩ := WT_rngI (r := ((-2147483648), 2147483647)) hW id rfl ha_Y
  clear hN_Y
  obtain ⟨hN_Z, hv_Z⟩ := WT_rngI (r := ((-2147483648), 2147483647)) hW id rfl ha_Z
  clear hN_Z
  refine J_aload_n dX3_endY_0 rfl ?_
  refine J_get jf_X3_37 dX3_endY_1 hO_a0 hF_yy ?_
  refine J_aload_n dX3_endY_4 rfl ?_
  refine J_get jf_X3_15 dX3_endY_5 hO_a0 hF_n ?_
  refine J_callSN2 moX6_cell (host := "WalkGrounds") (List.mem_of_getElem? (i := 0) rfl) jw_st_X6_cell dX3_endY_8 (w_X6_cell_x (d - 1) _ yy n ha_Y (WT_rngI (r := (-2147483648, 2147483647)) hW id rfl ha_Y).1 rfl (by omega) (by omega)) (by omega) (Nat.zero_le _) (Nat.zero_le _) (Nat.le_of_ble_eq_true rfl) (fun r8 V8 h8 => ?_)
  obtain ⟨⟨y8, rfl, hf8⟩, hE8⟩ := h8
  have hE8 := hE8.symm
  subst hE8
  have hz8 : jEq y8.toInt (Y (n.toInt).toNat).toInt := by rw [← hf8]; rfl
  clear hf8
  · exact J_ret (r := some (.int _)) dX3_endY_11 ⟨rfl, _, rfl, rfl⟩ (⟨⟨_, rfl, (j_rng _).1, (j_rng _).2, (by (try simp only [hz8.eq, true_and, and_true]) <;> omega)⟩, rfl⟩)
set_option maxRecDepth 100000 in
set_option maxHeartbeats 8000000 in
theorem w_X3_endZ_z {tS : jTS} (d : Nat) (V0 : jH) {ln : Nat} (a0 : Nat) (M : Int32) (g : Int32) (n : Int32) (s : Nat) (xx : Nat) (yy : Nat) (zz : Nat) (S : Nat → Int32) (X : Nat → Int32) (Y : Nat → Int32) (Z : Nat → Int32) (hd : 1 ≤ d) (hW : WT V0) (ha0 : jis V0 (.inr 1) a0) (hf_M : jfI V0 a0 1 0 M) (hf_g : jfI V0 a0 1 5 g) (hf_n : jfI V0 a0 1 6 n) (hr_s : jfR V0 a0 1 1 s) (hr_xx : jfR V0 a0 1 2 xx) (hr_yy : jfR V0 a0 1 3 yy) (hr_zz : jfR V0 a0 1 4 zz) (ha_S : V0 s = some (.inl (6, ln, .inl S))) (ha_X : V0 xx = some (.inl (34, ln + 1, .inl X))) (ha_Y : V0 yy = some (.inl (35, ln + 1, .inl Y))) (ha_Z : V0 zz = some (.inl (36, ln + 1, .inl Z))) (hp0 : M.toInt = (ln : Int)) (hp1 : (ln : Int) ≤ 120) (hp2 : n.toInt ≤ M.toInt) : jTot tS mX3_endZ d [.ref a0] V0 0 0 (fun r V => (fun r _ => ∃ y : Int32, r = some (.int y) ∧ ((-2147483648) ≤ y.toInt) ∧ (y.toInt ≤ 2147483647) ∧ (y.toInt = (Z n.toInt.toNat).toInt)) r V ∧ V = V0) := by
  refine jTot.of_J [some (.ref a0)] moX3_endZ (Nat.le_of_ble_eq_true rfl) rfl ?_
  have he : jeff [] V0 V0 := jeff.refl _ _
  obtain ⟨fs_a0, hO_a0, hK_a0⟩ := WT_obj hW id ha0
  have hF_M := hf_M.get hO_a0
  have hrM : 0 ≤ M.toInt ∧ M.toInt ≤ 120 := jok_rngI hK_a0 rfl hF_M
  have hF_g := hf_g.get hO_a0
  have hrg : (-2147483648) ≤ g.toInt ∧ g.toInt ≤ 2147483647 := jok_rngI hK_a0 rfl hF_g
  have hF_n := hf_n.get hO_a0
  have hrn : 0 ≤ n.toInt ∧ n.toInt ≤ 120 := jok_rngI hK_a0 rfl hF_n
  have hF_s := hr_s.get hO_a0
  obtain ⟨w_s, hFq_s, b_s, hbq_s, hb_s⟩ := hK_a0.2 1 (.inr (some (.inl 6))) rfl
  cases hF_s.symm.trans (hFq_s.trans (congrArg some hbq_s))
  have hF_xx := hr_xx.get hO_a0
  obtain ⟨w_xx, hFq_xx, b_xx, hbq_xx, hb_xx⟩ := hK_a0.2 2 (.inr (some (.inl 34))) rfl
  cases hF_xx.symm.trans (hFq_xx.trans (congrArg some hbq_xx))
  have hF_yy := hr_yy.get hO_a0
  obtain ⟨w_yy, hFq_yy, b_yy, hbq_yy, hb_yy⟩ := hK_a0.2 3 (.inr (some (.inl 35))) rfl
  cases hF_yy.symm.trans (hFq_yy.trans (congrArg some hbq_yy))
  have hF_zz := hr_zz.get hO_a0
  obtain ⟨w_zz, hFq_zz, b_zz, hbq_zz, hb_zz⟩ := hK_a0.2 4 (.inr (some (.inl 36))) rfl
  cases hF_zz.symm.trans (hFq_zz.trans (congrArg some hbq_zz))
  obtain ⟨hN_S, hv_S⟩ := WT_rngI (r := ((-2147483648), 2147483647)) hW id rfl ha_S
  clear hN_S
  obtain ⟨hN_X, hv_X⟩ := WT_rngI (r := ((-2147483648), 2147483647)) hW id rfl ha_X
  clear hN_X
  obtain ⟨hN_Y, hv_Y⟩ := WT_rngI (r := ((-2147483648), 2147483647)) hW id rfl ha_Y
  clear hN_Y
  obtain ⟨hN_Z, hv_Z⟩ := WT_rngI (r := ((-2147483648), 2147483647)) hW id rfl ha_Z
  clear hN_Z
  refine J_aload_n dX3_endZ_0 rfl ?_
  refine J_get jf_X3_40 dX3_endZ_1 hO_a0 hF_zz ?_
  refine J_aload_n dX3_endZ_4 rfl ?_
  refine J_get jf_X3_15 dX3_endZ_5 hO_a0 hF_n ?_
  refine J_callSN2 moX6_cell (host := "WalkGrounds") (List.mem_of_getElem? (i := 0) rfl) jw_st_X6_cell dX3_endZ_8 (w_X6_cell_x (d - 1) _ zz n ha_Z (WT_rngI (r := (-2147483648, 2147483647)) hW id rfl ha_Z).1 rfl (by omega) (by omega)) (by omega) (Nat.zero_le _) (Nat.zero_le _) (Nat.le_of_ble_eq_true rfl) (fun r8 V8 h8 => ?_)
  obtain ⟨⟨y8, rfl, hf8⟩, hE8⟩ := h8
  have hE8 := hE8.symm
  subst hE8
  have hz8 : jEq y8.toInt (Z (n.toInt).toNat).toInt := by rw [← hf8]; rfl
  clear hf8
  · exact J_ret (r := some (.int _)) dX3_endZ_11 ⟨rfl, _, rfl, rfl⟩ (⟨⟨_, rfl, (j_rng _).1, (j_rng _).2, (by (try simp only [hz8.eq, true_and, and_true]) <;> omega)⟩, rfl⟩)
set_option maxRecDepth 100000 in
set_option maxHeartbeats 8000000 in
theorem w_X3_hasCome_z {tS : jTS} (d : Nat) (V0 : jH) {ln : Nat} (a0 : Nat) (x1 : Int32) (x2 : Int32) (x3 : Int32) (M : Int32) (g : Int32) (n : Int32) (s : Nat) (xx : Nat) (yy : Nat) (zz : Nat) (S : Nat → Int32) (X : Nat → Int32) (Y : Nat → Int32) (Z : Nat → Int32) (hd : 1 ≤ d) (hW : WT V0) (ha0 : jis V0 (.inr 1) a0) (hf_M : jfI V0 a0 1 0 M) (hf_g : jfI V0 a0 1 5 g) (hf_n : jfI V0 a0 1 6 n) (hr_s : jfR V0 a0 1 1 s) (hr_xx : jfR V0 a0 1 2 xx) (hr_yy : jfR V0 a0 1 3 yy) (hr_zz : jfR V0 a0 1 4 zz) (ha_S : V0 s = some (.inl (6, ln, .inl S))) (ha_X : V0 xx = some (.inl (34, ln + 1, .inl X))) (ha_Y : V0 yy = some (.inl (35, ln + 1, .inl Y))) (ha_Z : V0 zz = some (.inl (36, ln + 1, .inl Z))) (hp0 : M.toInt = (ln : Int)) (hp1 : (ln : Int) ≤ 120) (hp2 : n.toInt ≤ M.toInt) : jTot tS mX3_hasCome d [.ref a0, .int x1, .int x2, .int x3] V0 0 0 (fun r V => (fun r _ => ∃ y : Int32, r = some (.int y) ∧ (0 ≤ y.toInt) ∧ (y.toInt ≤ 1) ∧ (jIf y 1 (∃ j : Nat, (j : Int) ≤ n.toInt ∧ ((X j).toInt = x1.toInt ∧ (Y j).toInt = x2.toInt ∧ (Z j).toInt = x3.toInt))) ∧ (jIf y 0 (∀ j : Nat, (j : Int) ≤ n.toInt → ¬ ((X j).toInt = x1.toInt ∧ (Y j).toInt = x2.toInt ∧ (Z j).toInt = x3.toInt)))) r V ∧ V = V0) := by
  refine jTot.of_J [some (.ref a0), some (.int x1), some (.int x2), some (.int x3), none] moX3_hasCome (Nat.le_of_ble_eq_true rfl) rfl ?_
  have hrx1 := j_rng x1
  have hrx2 := j_rng x2
  have hrx3 := j_rng x3
  have he : jeff [] V0 V0 := jeff.refl _ _
  obtain ⟨fs_a0, hO_a0, hK_a0⟩ := WT_obj hW id ha0
  have hF_M := hf_M.get hO_a0
  have hrM : 0 ≤ M.toInt ∧ M.toInt ≤ 120 := jok_rngI hK_a0 rfl hF_M
  have hF_g := hf_g.get hO_a0
  have hrg : (-2147483648) ≤ g.toInt ∧ g.toInt ≤ 2147483647 := jok_rngI hK_a0 rfl hF_g
  have hF_n := hf_n.get hO_a0
  have hrn : 0 ≤ n.toInt ∧ n.toInt ≤ 120 := jok_rngI hK_a0 rfl hF_n
  have hF_s := hr_s.get hO_a0
  obtain ⟨w_s, hFq_s, b_s, hbq_s, hb_s⟩ := hK_a0.2 1 (.inr (some (.inl 6))) rfl
  cases hF_s.symm.trans (hFq_s.trans (congrArg some hbq_s))
  have hF_xx := hr_xx.get hO_a0
  obtain ⟨w_xx, hFq_xx, b_xx, hbq_xx, hb_xx⟩ := hK_a0.2 2 (.inr (some (.inl 34))) rfl
  cases hF_xx.symm.trans (hFq_xx.trans (congrArg some hbq_xx))
  have hF_yy := hr_yy.get hO_a0
  obtain ⟨w_yy, hFq_yy, b_yy, hbq_yy, hb_yy⟩ := hK_a0.2 3 (.inr (some (.inl 35))) rfl
  cases hF_yy.symm.trans (hFq_yy.trans (congrArg some hbq_yy))
  have hF_zz := hr_zz.get hO_a0
  obtain ⟨w_zz, hFq_zz, b_zz, hbq_zz, hb_zz⟩ := hK_a0.2 4 (.inr (some (.inl 36))) rfl
  cases hF_zz.symm.trans (hFq_zz.trans (congrArg some hbq_zz))
  obtain ⟨hN_S, hv_S⟩ := WT_rngI (r := ((-2147483648), 2147483647)) hW id rfl ha_S
  clear hN_S
  obtain ⟨hN_X, hv_X⟩ := WT_rngI (r := ((-2147483648), 2147483647)) hW id rfl ha_X
  clear hN_X
  obtain ⟨hN_Y, hv_Y⟩ := WT_rngI (r := ((-2147483648), 2147483647)) hW id rfl ha_Y
  clear hN_Y
  obtain ⟨hN_Z, hv_Z⟩ := WT_rngI (r := ((-2147483648), 2147483647)) hW id rfl ha_Z
  clear hN_Z
  refine J_aload_n dX3_hasCome_0 rfl ?_
  refine J_get jf_X3_15 dX3_hasCome_1 hO_a0 hF_n ?_
  refine J_istore dX3_hasCome_4 rfl (by decide) ?_
  have L6 : ∀ (N : Nat) (i4n6 : Int32), (-1 ≤ i4n6.toInt ∧ i4n6.toInt ≤ n.toInt) → (∀ j : Nat, i4n6.toInt < (j : Int) → (j : Int) ≤ n.toInt → ¬ ((X j).toInt = x1.toInt ∧ (Y j).toInt = x2.toInt ∧ (Z j).toInt = x3.toInt)) → (i4n6.toInt + 2).toNat < N → J tS mX3_hasCome d 6 [some (.ref a0), some (.int x1), some (.int x2), some (.int x3), some (.int i4n6)] [] V0 0 0 (fun r V => (fun r _ => ∃ y : Int32, r = some (.int y) ∧ (0 ≤ y.toInt) ∧ (y.toInt ≤ 1) ∧ (jIf y 1 (∃ j : Nat, (j : Int) ≤ n.toInt ∧ ((X j).toInt = x1.toInt ∧ (Y j).toInt = x2.toInt ∧ (Z j).toInt = x3.toInt))) ∧ (jIf y 0 (∀ j : Nat, (j : Int) ≤ n.toInt → ¬ ((X j).toInt = x1.toInt ∧ (Y j).toInt = x2.toInt ∧ (Z j).toInt = x3.toInt)))) r V ∧ V = V0) := by
    intro N
    induction N with
    | zero => intro i4n6  hi hno hm; exact absurd hm (Nat.not_lt_zero _)
    | succ N ih =>
      intro i4n6  hi hno hm
      have ih6 := ih
      have hri4 := j_rng i4n6
      refine J_iload dX3_hasCome_6 rfl ?_
      refine Jz_if_lt (tgt := 58) jEq.rf dX3_hasCome_8 (by decide) (fun c8 => ?_) (fun c8 => ?_)
      · refine Jz_iconst 0 dX3_hasCome_58 (by decide) (fun y58 he58 => ?_)
        exact J_ret (r := some (.int _)) dX3_hasCome_59 ⟨rfl, _, rfl, (nar_b (by (try simp only [he58.eq, true_and, and_true]) <;> omega) (by (try simp only [he58.eq, true_and, and_true]) <;> omega))⟩ (⟨⟨_, rfl, (by (try simp only [he58.eq, true_and, and_true]) <;> omega), (by (try simp only [he58.eq, true_and, and_true]) <;> omega), (fun h => by rw [he58.eq] at h; omega), (fun _ j hj => hno j (by omega) hj)⟩, rfl⟩)
      · refine J_aload_n dX3_hasCome_11 rfl ?_
        refine J_get jf_X3_34 dX3_hasCome_12 hO_a0 hF_xx ?_
        refine J_iload dX3_hasCome_15 rfl ?_
        refine J_callSN2 moX6_cell (host := "WalkGrounds") (List.mem_of_getElem? (i := 0) rfl) jw_st_X6_cell dX3_hasCome_17 (w_X6_cell_x (d - 1) _ xx i4n6 ha_X (WT_rngI (r := (-2147483648, 2147483647)) hW id rfl ha_X).1 rfl (by omega) (by omega)) (by omega) (Nat.zero_le _) (Nat.zero_le _) (Nat.le_of_ble_eq_true rfl) (fun r17 V17 h17 => ?_)
        obtain ⟨⟨y17, rfl, hf17⟩, hE17⟩ := h17
        have hE17 := hE17.symm
        subst hE17
        have hz17 : jEq y17.toInt (X (i4n6.toInt).toNat).toInt := by rw [← hf17]; rfl
        clear hf17
        · refine J_iload_n dX3_hasCome_20 rfl ?_
          refine Jz_icmp_ne (tgt := 52) hz17 jEq.rf dX3_hasCome_21 (by decide) (fun c21 => ?_) (fun c21 => ?_)
          · refine Jz_iinc (-1) dX3_hasCome_52 rfl rfl (by decide) jEq.rf (by decide) (by omega) (by omega) (fun y52 he52 => ?_)
            refine J_goto (tgt := 6) dX3_hasCome_55 (by decide) ?_
            refine J.mask [true, true, true, true, true] ?_
            exact ih6  y52  (by (try simp only [he52.eq, true_and, and_true]) <;> omega) (fun j h1 h2 h3 => by
   rw [he52.eq] at h1
   by_cases h9 : (j : Int) = i4n6.toInt
   · have e : j = i4n6.toInt.toNat := by omega
     subst e
     omega
   · exact hno j (by omega) h2 h3) (by (try simp only [he52.eq, true_and, and_true]) <;> omega)
          · refine J_aload_n dX3_hasCome_24 rfl ?_
            refine J_get jf_X3_37 dX3_hasCome_25 hO_a0 hF_yy ?_
            refine J_iload dX3_hasCome_28 rfl ?_
            refine J_callSN2 moX6_cell (host := "WalkGrounds") (List.mem_of_getElem? (i := 0) rfl) jw_st_X6_cell dX3_hasCome_30 (w_X6_cell_x (d - 1) _ yy i4n6 ha_Y (WT_rngI (r := (-2147483648, 2147483647)) hW id rfl ha_Y).1 rfl (by omega) (by omega)) (by omega) (Nat.zero_le _) (Nat.zero_le _) (Nat.le_of_ble_eq_true rfl) (fun r30 V30 h30 => ?_)
            obtain ⟨⟨y30, rfl, hf30⟩, hE30⟩ := h30
            have hE30 := hE30.symm
            subst hE30
            have hz30 : jEq y30.toInt (Y (i4n6.toInt).toNat).toInt := by rw [← hf30]; rfl
            clear hf30
            · refine J_iload_n dX3_hasCome_33 rfl ?_
              refine Jz_icmp_ne (tgt := 52) hz30 jEq.rf dX3_hasCome_34 (by decide) (fun c34 => ?_) (fun c34 => ?_)
              · refine Jz_iinc (-1) dX3_hasCome_52 rfl rfl (by decide) jEq.rf (by decide) (by omega) (by omega) (fun y52 he52 => ?_)
                refine J_goto (tgt := 6) dX3_hasCome_55 (by decide) ?_
                refine J.mask [true, true, true, true, true] ?_
                exact ih6  y52  (by (try simp only [he52.eq, true_and, and_true]) <;> omega) (fun j h1 h2 h3 => by
   rw [he52.eq] at h1
   by_cases h9 : (j : Int) = i4n6.toInt
   · have e : j = i4n6.toInt.toNat := by omega
     subst e
     omega
   · exact hno j (by omega) h2 h3) (by (try simp only [he52.eq, true_and, and_true]) <;> omega)
              · refine J_aload_n dX3_hasCome_37 rfl ?_
                refine J_get jf_X3_40 dX3_hasCome_38 hO_a0 hF_zz ?_
                refine J_iload dX3_hasCome_41 rfl ?_
                refine J_callSN2 moX6_cell (host := "WalkGrounds") (List.mem_of_getElem? (i := 0) rfl) jw_st_X6_cell dX3_hasCome_43 (w_X6_cell_x (d - 1) _ zz i4n6 ha_Z (WT_rngI (r := (-2147483648, 2147483647)) hW id rfl ha_Z).1 rfl (by omega) (by omega)) (by omega) (Nat.zero_le _) (Nat.zero_le _) (Nat.le_of_ble_eq_true rfl) (fun r43 V43 h43 => ?_)
                obtain ⟨⟨y43, rfl, hf43⟩, hE43⟩ := h43
                have hE43 := hE43.symm
                subst hE43
                have hz43 : jEq y43.toInt (Z (i4n6.toInt).toNat).toInt := by rw [← hf43]; rfl
                clear hf43
                · refine J_iload_n dX3_hasCome_46 rfl ?_
                  refine Jz_icmp_ne (tgt := 52) hz43 jEq.rf dX3_hasCome_47 (by decide) (fun c47 => ?_) (fun c47 => ?_)
                  · refine Jz_iinc (-1) dX3_hasCome_52 rfl rfl (by decide) jEq.rf (by decide) (by omega) (by omega) (fun y52 he52 => ?_)
                    refine J_goto (tgt := 6) dX3_hasCome_55 (by decide) ?_
                    refine J.mask [true, true, true, true, true] ?_
                    exact ih6  y52  (by (try simp only [he52.eq, true_and, and_true]) <;> omega) (fun j h1 h2 h3 => by
   rw [he52.eq] at h1
   by_cases h9 : (j : Int) = i4n6.toInt
   · have e : j = i4n6.toInt.toNat := by omega
     subst e
     omega
   · exact hno j (by omega) h2 h3) (by (try simp only [he52.eq, true_and, and_true]) <;> omega)
                  · refine Jz_iconst 1 dX3_hasCome_50 (by decide) (fun y50 he50 => ?_)
                    exact J_ret (r := some (.int _)) dX3_hasCome_51 ⟨rfl, _, rfl, (nar_b (by (try simp only [he50.eq, true_and, and_true]) <;> omega) (by (try simp only [he50.eq, true_and, and_true]) <;> omega))⟩ (⟨⟨_, rfl, (by (try simp only [he50.eq, true_and, and_true]) <;> omega), (by (try simp only [he50.eq, true_and, and_true]) <;> omega), (fun _ => ⟨i4n6.toInt.toNat, by omega, c21, c34, c47⟩), (fun h => by rw [he50.eq] at h; omega)⟩, rfl⟩)
  refine J.mask [true, true, true, true, true] ?_
  exact L6 _  n    (by omega) (by omega) (Nat.lt_succ_self _)
set_option maxRecDepth 100000 in
set_option maxHeartbeats 8000000 in
theorem w_X3_leads_z {tS : jTS} (d : Nat) (V0 : jH) {ln : Nat} (a0 : Nat) (x1 : Int32) (M : Int32) (g : Int32) (n : Int32) (s : Nat) (xx : Nat) (yy : Nat) (zz : Nat) (S : Nat → Int32) (X : Nat → Int32) (Y : Nat → Int32) (Z : Nat → Int32) (hd : 2 ≤ d) (hW : WT V0) (ha0 : jis V0 (.inr 1) a0) (hf_M : jfI V0 a0 1 0 M) (hf_g : jfI V0 a0 1 5 g) (hf_n : jfI V0 a0 1 6 n) (hr_s : jfR V0 a0 1 1 s) (hr_xx : jfR V0 a0 1 2 xx) (hr_yy : jfR V0 a0 1 3 yy) (hr_zz : jfR V0 a0 1 4 zz) (ha_S : V0 s = some (.inl (6, ln, .inl S))) (ha_X : V0 xx = some (.inl (34, ln + 1, .inl X))) (ha_Y : V0 yy = some (.inl (35, ln + 1, .inl Y))) (ha_Z : V0 zz = some (.inl (36, ln + 1, .inl Z))) (hp0 : M.toInt = (ln : Int)) (hp1 : (ln : Int) ≤ 120) (hp2 : n.toInt ≤ M.toInt) (hp3 : 0 ≤ g.toInt) (hp4 : g.toInt ≤ 3) (hp5 : 0 ≤ x1.toInt) (hp6 : x1.toInt < jdir g.toInt) (hp7 : -120 ≤ (X n.toInt.toNat).toInt) (hp8 : (X n.toInt.toNat).toInt ≤ 120) (hp9 : -120 ≤ (Y n.toInt.toNat).toInt) (hp10 : (Y n.toInt.toNat).toInt ≤ 120) (hp11 : -120 ≤ (Z n.toInt.toNat).toInt) (hp12 : (Z n.toInt.toNat).toInt ≤ 120) : jTot tS mX3_leads d [.ref a0, .int x1] V0 0 0 (fun r V => (fun r _ => ∃ y : Int32, r = some (.int y) ∧ (0 ≤ y.toInt) ∧ (y.toInt ≤ 1) ∧ (jIf y 1 (∀ j : Nat, (j : Int) ≤ n.toInt → ¬ ((X j).toInt = (X n.toInt.toNat).toInt + jsx g.toInt x1.toInt ∧ (Y j).toInt = (Y n.toInt.toNat).toInt + jsy g.toInt x1.toInt ((X n.toInt.toNat).toInt + (Y n.toInt.toNat).toInt) ∧ (Z j).toInt = (Z n.toInt.toNat).toInt + jsz g.toInt x1.toInt))) ∧ (jIf y 0 (∃ j : Nat, (j : Int) ≤ n.toInt ∧ ((X j).toInt = (X n.toInt.toNat).toInt + jsx g.toInt x1.toInt ∧ (Y j).toInt = (Y n.toInt.toNat).toInt + jsy g.toInt x1.toInt ((X n.toInt.toNat).toInt + (Y n.toInt.toNat).toInt) ∧ (Z j).toInt = (Z n.toInt.toNat).toInt + jsz g.toInt x1.toInt)))) r V ∧ V = V0) := by
  refine jTot.of_J [some (.ref a0), some (.int x1)] moX3_leads (Nat.le_of_ble_eq_true rfl) rfl ?_
  have hrx1 := j_rng x1
  have he : jeff [] V0 V0 := jeff.refl _ _
  obtain ⟨fs_a0, hO_a0, hK_a0⟩ := WT_obj hW id ha0
  have hF_M := hf_M.get hO_a0
  have hrM : 0 ≤ M.toInt ∧ M.toInt ≤ 120 := jok_rngI hK_a0 rfl hF_M
  have hF_g := hf_g.get hO_a0
  have hrg : (-2147483648) ≤ g.toInt ∧ g.toInt ≤ 2147483647 := jok_rngI hK_a0 rfl hF_g
  have hF_n := hf_n.get hO_a0
  have hrn : 0 ≤ n.toInt ∧ n.toInt ≤ 120 := jok_rngI hK_a0 rfl hF_n
  have hF_s := hr_s.get hO_a0
  obtain ⟨w_s, hFq_s, b_s, hbq_s, hb_s⟩ := hK_a0.2 1 (.inr (some (.inl 6))) rfl
  cases hF_s.symm.trans (hFq_s.trans (congrArg some hbq_s))
  have hF_xx := hr_xx.get hO_a0
  obtain ⟨w_xx, hFq_xx, b_xx, hbq_xx, hb_xx⟩ := hK_a0.2 2 (.inr (some (.inl 34))) rfl
  cases hF_xx.symm.trans (hFq_xx.trans (congrArg some hbq_xx))
  have hF_yy := hr_yy.get hO_a0
  obtain ⟨w_yy, hFq_yy, b_yy, hbq_yy, hb_yy⟩ := hK_a0.2 3 (.inr (some (.inl 35))) rfl
  cases hF_yy.symm.trans (hFq_yy.trans (congrArg some hbq_yy))
  have hF_zz := hr_zz.get hO_a0
  obtain ⟨w_zz, hFq_zz, b_zz, hbq_zz, hb_zz⟩ := hK_a0.2 4 (.inr (some (.inl 36))) rfl
  cases hF_zz.symm.trans (hFq_zz.trans (congrArg some hbq_zz))
  obtain ⟨hN_S, hv_S⟩ := WT_rngI (r := ((-2147483648), 2147483647)) hW id rfl ha_S
  clear hN_S
  obtain ⟨hN_X, hv_X⟩ := WT_rngI (r := ((-2147483648), 2147483647)) hW id rfl ha_X
  clear hN_X
  obtain ⟨hN_Y, hv_Y⟩ := WT_rngI (r := ((-2147483648), 2147483647)) hW id rfl ha_Y
  clear hN_Y
  obtain ⟨hN_Z, hv_Z⟩ := WT_rngI (r := ((-2147483648), 2147483647)) hW id rfl ha_Z
  clear hN_Z
  have hjd := jdir_cases g.toInt
  have hbx := jsx_b g.toInt x1.toInt
  have hby := jsy_b g.toInt x1.toInt ((X n.toInt.toNat).toInt + (Y n.toInt.toNat).toInt)
  have hbz := jsz_b g.toInt x1.toInt
  refine J_aload_n dX3_leads_0 rfl ?_
  refine J_aload_n dX3_leads_1 rfl ?_
  refine Jw_callV0 (q9 := (RX3, TX3, 7)) moX3_endX jw_ml_X3_47 jw_im_X3_endX jw_se_X3_endX ha0 rfl rfl dX3_leads_2 (w_X3_endX_z (d - 1) _ a0 M g n s xx yy zz S X Y Z (by omega) hW  ha0 ⟨_, hO_a0, hF_M⟩ ⟨_, hO_a0, hF_g⟩ ⟨_, hO_a0, hF_n⟩ ⟨_, hO_a0, hF_s⟩ ⟨_, hO_a0, hF_xx⟩ ⟨_, hO_a0, hF_yy⟩ ⟨_, hO_a0, hF_zz⟩ ha_S ha_X ha_Y ha_Z (by omega) (by omega) (by omega)) (by omega) (Nat.zero_le _) (Nat.zero_le _) (Nat.le_of_ble_eq_true rfl) (fun r2 V2 h2 => ?_)
  obtain ⟨⟨y2, rfl, hl2, hh2, hP2_0⟩, hE2⟩ := h2
  have hE2 := hE2.symm
  subst hE2
  clear hl2 hh2
  have hz2 : jEq y2.toInt ((X (n.toInt).toNat).toInt) := hP2_0
  clear hP2_0
  refine J_aload_n dX3_leads_5 rfl ?_
  refine J_get jf_X3_9 dX3_leads_6 hO_a0 hF_g ?_
  refine J_iload_n dX3_leads_9 rfl ?_
  refine J_callS2 moX0_shiftX jw_ml_X3_51 jw_st_X0_shiftX dX3_leads_10 (w_X0_shiftX_z (d - 1) _ g x1 (by omega)   (by omega) (by omega) (by omega) (by omega)) (by omega) (Nat.zero_le _) (Nat.zero_le _) (Nat.le_of_ble_eq_true rfl) (fun r10 V10 h10 => ?_)
  obtain ⟨⟨y10, rfl, hl10, hh10, hP10_0⟩, hE10⟩ := h10
  have hE10 := hE10.symm
  subst hE10
  clear hl10 hh10
  have hz10 : jEq y10.toInt (jsx (g.toInt) (x1.toInt)) := hP10_0
  clear hP10_0
  refine Jz_iadd hz2 hz10 dX3_leads_13 (by omega) (by omega) (fun y13 he13 => ?_)
  refine J_aload_n dX3_leads_14 rfl ?_
  refine Jw_callV0 (q9 := (RX3, TX3, 7)) moX3_endY jw_ml_X3_56 jw_im_X3_endY jw_se_X3_endY ha0 rfl rfl dX3_leads_15 (w_X3_endY_z (d - 1) _ a0 M g n s xx yy zz S X Y Z (by omega) hW  ha0 ⟨_, hO_a0, hF_M⟩ ⟨_, hO_a0, hF_g⟩ ⟨_, hO_a0, hF_n⟩ ⟨_, hO_a0, hF_s⟩ ⟨_, hO_a0, hF_xx⟩ ⟨_, hO_a0, hF_yy⟩ ⟨_, hO_a0, hF_zz⟩ ha_S ha_X ha_Y ha_Z (by omega) (by omega) (by omega)) (by omega) (Nat.zero_le _) (Nat.zero_le _) (Nat.le_of_ble_eq_true rfl) (fun r15 V15 h15 => ?_)
  obtain ⟨⟨y15, rfl, hl15, hh15, hP15_0⟩, hE15⟩ := h15
  have hE15 := hE15.symm
  subst hE15
  clear hl15 hh15
  have hz15 : jEq y15.toInt ((Y (n.toInt).toNat).toInt) := hP15_0
  clear hP15_0
  refine J_aload_n dX3_leads_18 rfl ?_
  refine J_get jf_X3_9 dX3_leads_19 hO_a0 hF_g ?_
  refine J_iload_n dX3_leads_22 rfl ?_
  refine J_aload_n dX3_leads_23 rfl ?_
  refine Jw_callV0 (q9 := (RX3, TX3, 7)) moX3_endX jw_ml_X3_47 jw_im_X3_endX jw_se_X3_endX ha0 rfl rfl dX3_leads_24 (w_X3_endX_z (d - 1) _ a0 M g n s xx yy zz S X Y Z (by omega) hW  ha0 ⟨_, hO_a0, hF_M⟩ ⟨_, hO_a0, hF_g⟩ ⟨_, hO_a0, hF_n⟩ ⟨_, hO_a0, hF_s⟩ ⟨_, hO_a0, hF_xx⟩ ⟨_, hO_a0, hF_yy⟩ ⟨_, hO_a0, hF_zz⟩ ha_S ha_X ha_Y ha_Z (by omega) (by omega) (by omega)) (by omega) (Nat.zero_le _) (Nat.zero_le _) (Nat.le_of_ble_eq_true rfl) (fun r24 V24 h24 => ?_)
  obtain ⟨⟨y24, rfl, hl24, hh24, hP24_0⟩, hE24⟩ := h24
  have hE24 := hE24.symm
  subst hE24
  clear hl24 hh24
  have hz24 : jEq y24.toInt ((X (n.toInt).toNat).toInt) := hP24_0
  clear hP24_0
  refine J_aload_n dX3_leads_27 rfl ?_
  refine Jw_callV0 (q9 := (RX3, TX3, 7)) moX3_endY jw_ml_X3_56 jw_im_X3_endY jw_se_X3_endY ha0 rfl rfl dX3_leads_28 (w_X3_endY_z (d - 1) _ a0 M g n s xx yy zz S X Y Z (by omega) hW  ha0 ⟨_, hO_a0, hF_M⟩ ⟨_, hO_a0, hF_g⟩ ⟨_, hO_a0, hF_n⟩ ⟨_, hO_a0, hF_s⟩ ⟨_, hO_a0, hF_xx⟩ ⟨_, hO_a0, hF_yy⟩ ⟨_, hO_a0, hF_zz⟩ ha_S ha_X ha_Y ha_Z (by omega) (by omega) (by omega)) (by omega) (Nat.zero_le _) (Nat.zero_le _) (Nat.le_of_ble_eq_true rfl) (fun r28 V28 h28 => ?_)
  obtain ⟨⟨y28, rfl, hl28, hh28, hP28_0⟩, hE28⟩ := h28
  have hE28 := hE28.symm
  subst hE28
  clear hl28 hh28
  have hz28 : jEq y28.toInt ((Y (n.toInt).toNat).toInt) := hP28_0
  clear hP28_0
  refine J_callS4 moX0_shiftY jw_ml_X3_59 jw_st_X0_shiftY dX3_leads_31 (w_X0_shiftY_z (d - 1) _ g x1 y24 y28 (by omega)   (by omega) (by omega) (by omega) (by omega) (by (try simp only [hz24.eq, true_and, and_true]) <;> omega) (by (try simp only [hz24.eq, true_and, and_true]) <;> omega) (by (try simp only [hz28.eq, true_and, and_true]) <;> omega) (by (try simp only [hz28.eq, true_and, and_true]) <;> omega)) (by omega) (Nat.zero_le _) (Nat.zero_le _) (Nat.le_of_ble_eq_true rfl) (fun r31 V31 h31 => ?_)
  obtain ⟨⟨y31, rfl, hl31, hh31, hP31_0⟩, hE31⟩ := h31
  have hE31 := hE31.symm
  subst hE31
  clear hl31 hh31
  try simp only [hz24.eq, hz28.eq] at hP31_0
  have hz31 : jEq y31.toInt (jsy (g.toInt) (x1.toInt) (((X (n.toInt).toNat).toInt) + ((Y (n.toInt).toNat).toInt))) := hP31_0
  clear hP31_0
  refine Jz_iadd hz15 hz31 dX3_leads_34 (by omega) (by omega) (fun y34 he34 => ?_)
  refine J_aload_n dX3_leads_35 rfl ?_
  refine Jw_callV0 (q9 := (RX3, TX3, 7)) moX3_endZ jw_ml_X3_63 jw_im_X3_endZ jw_se_X3_endZ ha0 rfl rfl dX3_leads_36 (w_X3_endZ_z (d - 1) _ a0 M g n s xx yy zz S X Y Z (by omega) hW  ha0 ⟨_, hO_a0, hF_M⟩ ⟨_, hO_a0, hF_g⟩ ⟨_, hO_a0, hF_n⟩ ⟨_, hO_a0, hF_s⟩ ⟨_, hO_a0, hF_xx⟩ ⟨_, hO_a0, hF_yy⟩ ⟨_, hO_a0, hF_zz⟩ ha_S ha_X ha_Y ha_Z (by omega) (by omega) (by omega)) (by omega) (Nat.zero_le _) (Nat.zero_le _) (Nat.le_of_ble_eq_true rfl) (fun r36 V36 h36 => ?_)
  obtain ⟨⟨y36, rfl, hl36, hh36, hP36_0⟩, hE36⟩ := h36
  have hE36 := hE36.symm
  subst hE36
  clear hl36 hh36
  have hz36 : jEq y36.toInt ((Z (n.toInt).toNat).toInt) := hP36_0
  clear hP36_0
  refine J_aload_n dX3_leads_39 rfl ?_
  refine J_get jf_X3_9 dX3_leads_40 hO_a0 hF_g ?_
  refine J_iload_n dX3_leads_43 rfl ?_
  refine J_callS2 moX0_shiftZ jw_ml_X3_66 jw_st_X0_shiftZ dX3_leads_44 (w_X0_shiftZ_z (d - 1) _ g x1 (by omega)   (by omega) (by omega) (by omega) (by omega)) (by omega) (Nat.zero_le _) (Nat.zero_le _) (Nat.le_of_ble_eq_true rfl) (fun r44 V44 h44 => ?_)
  obtain ⟨⟨y44, rfl, hl44, hh44, hP44_0⟩, hE44⟩ := h44
  have hE44 := hE44.symm
  subst hE44
  clear hl44 hh44
  have hz44 : jEq y44.toInt (jsz (g.toInt) (x1.toInt)) := hP44_0
  clear hP44_0
  refine Jz_iadd hz36 hz44 dX3_leads_47 (by omega) (by omega) (fun y47 he47 => ?_)
  refine Jw_callV3 (q9 := (RX3, TX3, 7)) moX3_hasCome jw_ml_X3_69 jw_im_X3_hasCome jw_se_X3_hasCome ha0 rfl rfl dX3_leads_48 (w_X3_hasCome_z (d - 1) _ a0 y13 y34 y47 M g n s xx yy zz S X Y Z (by omega) hW  ha0 ⟨_, hO_a0, hF_M⟩ ⟨_, hO_a0, hF_g⟩ ⟨_, hO_a0, hF_n⟩ ⟨_, hO_a0, hF_s⟩ ⟨_, hO_a0, hF_xx⟩ ⟨_, hO_a0, hF_yy⟩ ⟨_, hO_a0, hF_zz⟩ ha_S ha_X ha_Y ha_Z (by omega) (by omega) (by omega)) (by omega) (Nat.zero_le _) (Nat.zero_le _) (Nat.le_of_ble_eq_true rfl) (fun r48 V48 h48 => ?_)
  obtain ⟨⟨y48, rfl, hl48, hh48, hI48_0, hI48_1⟩, hE48⟩ := h48
  have hE48 := hE48.symm
  subst hE48
  refine Jz_if_ne (tgt := 58) jEq.rf dX3_leads_51 (by decide) (fun c51 => ?_) (fun c51 => ?_)
  · have q51_0 := hI48_0.of (by omega)
    try simp only [he13.eq, he34.eq, he47.eq] at q51_0
    refine Jz_iconst 0 dX3_leads_58 (by decide) (fun y58 he58 => ?_)
    exact J_ret (r := some (.int _)) dX3_leads_59 ⟨rfl, _, rfl, (nar_b (by (try simp only [he58.eq, true_and, and_true]) <;> omega) (by (try simp only [he58.eq, true_and, and_true]) <;> omega))⟩ (⟨⟨_, rfl, (by (try simp only [he58.eq, true_and, and_true]) <;> omega), (by (try simp only [he58.eq, true_and, and_true]) <;> omega), (fun h => by rw [he58.eq] at h; omega), (fun _ => by have q := hI48_0.of (by omega); simp only [he13.eq, he34.eq, he47.eq] at q; exact q)⟩, rfl⟩)
  · have q51_1 := hI48_1.of (by omega)
    try simp only [he13.eq, he34.eq, he47.eq] at q51_1
    refine Jz_iconst 1 dX3_leads_54 (by decide) (fun y54 he54 => ?_)
    refine J_goto (tgt := 59) dX3_leads_55 (by decide) ?_
    exact J_ret (r := some (.int _)) dX3_leads_59 ⟨rfl, _, rfl, (nar_b (by (try simp only [he54.eq, true_and, and_true]) <;> omega) (by (try simp only [he54.eq, true_and, and_true]) <;> omega))⟩ (⟨⟨_, rfl, (by (try simp only [he54.eq, true_and, and_true]) <;> omega), (by (try simp only [he54.eq, true_and, and_true]) <;> omega), (fun _ => by have q := hI48_1.of (by omega); simp only [he13.eq, he34.eq, he47.eq] at q; exact q), (fun h => by rw [he54.eq] at h; omega)⟩, rfl⟩)
set_option maxRecDepth 100000 in
set_option maxHeartbeats 8000000 in
theorem w_X3_lay_no {tS : jTS} (d : Nat) (V0 : jH) {ln : Nat} (a0 : Nat) (x1 : Int32) (M : Int32) (g : Int32) (n : Int32) (s : Nat) (xx : Nat) (yy : Nat) (zz : Nat) (S : Nat → Int32) (X : Nat → Int32) (Y : Nat → Int32) (Z : Nat → Int32) (hd : 3 ≤ d) (hW : WT V0) (ha0 : jis V0 (.inr 1) a0) (hf_M : jfI V0 a0 1 0 M) (hf_g : jfI V0 a0 1 5 g) (hf_n : jfI V0 a0 1 6 n) (hr_s : jfR V0 a0 1 1 s) (hr_xx : jfR V0 a0 1 2 xx) (hr_yy : jfR V0 a0 1 3 yy) (hr_zz : jfR V0 a0 1 4 zz) (ha_S : V0 s = some (.inl (6, ln, .inl S))) (ha_X : V0 xx = some (.inl (34, ln + 1, .inl X))) (ha_Y : V0 yy = some (.inl (35, ln + 1, .inl Y))) (ha_Z : V0 zz = some (.inl (36, ln + 1, .inl Z))) (hp0 : M.toInt = (ln : Int)) (hp1 : (ln : Int) ≤ 120) (hp2 : n.toInt ≤ M.toInt) (hp3 : 0 ≤ g.toInt) (hp4 : g.toInt ≤ 3) (hp5 : 0 ≤ x1.toInt) (hp6 : x1.toInt < jdir g.toInt) (hp7 : -120 ≤ (X n.toInt.toNat).toInt) (hp8 : (X n.toInt.toNat).toInt ≤ 120) (hp9 : -120 ≤ (Y n.toInt.toNat).toInt) (hp10 : (Y n.toInt.toNat).toInt ≤ 120) (hp11 : -120 ≤ (Z n.toInt.toNat).toInt) (hp12 : (Z n.toInt.toNat).toInt ≤ 120) (hp13 : M.toInt ≤ n.toInt ∨ ∃ j : Nat, (j : Int) ≤ n.toInt ∧ ((X j).toInt = (X n.toInt.toNat).toInt + jsx g.toInt x1.toInt ∧ (Y j).toInt = (Y n.toInt.toNat).toInt + jsy g.toInt x1.toInt ((X n.toInt.toNat).toInt + (Y n.toInt.toNat).toInt) ∧ (Z j).toInt = (Z n.toInt.toNat).toInt + jsz g.toInt x1.toInt)) : jTot tS mX3_lay d [.ref a0, .int x1] V0 0 0 (fun r V => (fun r _ => ∃ y : Int32, r = some (.int y) ∧ (0 ≤ y.toInt) ∧ (y.toInt ≤ 1) ∧ (y.toInt = 0)) r V ∧ V = V0) := by
  refine jTot.of_J [some (.ref a0), some (.int x1), none, none, none] moX3_lay (Nat.le_of_ble_eq_true rfl) rfl ?_
  have hrx1 := j_rng x1
  have he : jeff [] V0 V0 := jeff.refl _ _
  obtain ⟨fs_a0, hO_a0, hK_a0⟩ := WT_obj hW id ha0
  have hF_M := hf_M.get hO_a0
  have hrM : 0 ≤ M.toInt ∧ M.toInt ≤ 120 := jok_rngI hK_a0 rfl hF_M
  have hF_g := hf_g.get hO_a0
  have hrg : (-2147483648) ≤ g.toInt ∧ g.toInt ≤ 2147483647 := jok_rngI hK_a0 rfl hF_g
  have hF_n := hf_n.get hO_a0
  have hrn : 0 ≤ n.toInt ∧ n.toInt ≤ 120 := jok_rngI hK_a0 rfl hF_n
  have hF_s := hr_s.get hO_a0
  obtain ⟨w_s, hFq_s, b_s, hbq_s, hb_s⟩ := hK_a0.2 1 (.inr (some (.inl 6))) rfl
  cases hF_s.symm.trans (hFq_s.trans (congrArg some hbq_s))
  have hF_xx := hr_xx.get hO_a0
  obtain ⟨w_xx, hFq_xx, b_xx, hbq_xx, hb_xx⟩ := hK_a0.2 2 (.inr (some (.inl 34))) rfl
  cases hF_xx.symm.trans (hFq_xx.trans (congrArg some hbq_xx))
  have hF_yy := hr_yy.get hO_a0
  obtain ⟨w_yy, hFq_yy, b_yy, hbq_yy, hb_yy⟩ := hK_a0.2 3 (.inr (some (.inl 35))) rfl
  cases hF_yy.symm.trans (hFq_yy.trans (congrArg some hbq_yy))
  have hF_zz := hr_zz.get hO_a0
  obtain ⟨w_zz, hFq_zz, b_zz, hbq_zz, hb_zz⟩ := hK_a0.2 4 (.inr (some (.inl 36))) rfl
  cases hF_zz.symm.trans (hFq_zz.trans (congrArg some hbq_zz))
  obtain ⟨hN_S, hv_S⟩ := WT_rngI (r := ((-2147483648), 2147483647)) hW id rfl ha_S
  clear hN_S
  obtain ⟨hN_X, hv_X⟩ := WT_rngI (r := ((-2147483648), 2147483647)) hW id rfl ha_X
  clear hN_X
  obtain ⟨hN_Y, hv_Y⟩ := WT_rngI (r := ((-2147483648), 2147483647)) hW id rfl ha_Y
  clear hN_Y
  obtain ⟨hN_Z, hv_Z⟩ := WT_rngI (r := ((-2147483648), 2147483647)) hW id rfl ha_Z
  clear hN_Z
  have hjd := jdir_cases g.toInt
  have hbx := jsx_b g.toInt x1.toInt
  have hby := jsy_b g.toInt x1.toInt ((X n.toInt.toNat).toInt + (Y n.toInt.toNat).toInt)
  have hbz := jsz_b g.toInt x1.toInt
  refine J_aload_n dX3_lay_0 rfl ?_
  refine J_get jf_X3_15 dX3_lay_1 hO_a0 hF_n ?_
  refine J_aload_n dX3_lay_4 rfl ?_
  refine J_get jf_X3_27 dX3_lay_5 hO_a0 hF_M ?_
  refine Jz_icmp_ge (tgt := 19) jEq.rf jEq.rf dX3_lay_8 (by decide) (fun c8 => ?_) (fun c8 => ?_)
  · refine Jz_iconst 0 dX3_lay_19 (by decide) (fun y19 he19 => ?_)
    exact J_ret (r := some (.int _)) dX3_lay_20 ⟨rfl, _, rfl, (nar_b (by (try simp only [he19.eq, true_and, and_true]) <;> omega) (by (try simp only [he19.eq, true_and, and_true]) <;> omega))⟩ (⟨⟨_, rfl, (by (try simp only [he19.eq, true_and, and_true]) <;> omega), (by (try simp only [he19.eq, true_and, and_true]) <;> omega), (by (try simp only [he19.eq, true_and, and_true]) <;> omega)⟩, rfl⟩)
  · refine J_aload_n dX3_lay_11 rfl ?_
    refine J_iload_n dX3_lay_12 rfl ?_
    refine Jw_callV1 (q9 := (RX3, TX3, 7)) moX3_leads jw_ml_X3_73 jw_im_X3_leads jw_se_X3_leads ha0 rfl rfl dX3_lay_13 (w_X3_leads_z (d - 1) _ a0 x1 M g n s xx yy zz S X Y Z (by omega) hW  ha0 ⟨_, hO_a0, hF_M⟩ ⟨_, hO_a0, hF_g⟩ ⟨_, hO_a0, hF_n⟩ ⟨_, hO_a0, hF_s⟩ ⟨_, hO_a0, hF_xx⟩ ⟨_, hO_a0, hF_yy⟩ ⟨_, hO_a0, hF_zz⟩ ha_S ha_X ha_Y ha_Z (by omega) (by omega) (by omega) (by omega) (by omega) (by omega) (by omega) (by omega) (by omega) (by omega) (by omega) (by omega) (by omega)) (by omega) (Nat.zero_le _) (Nat.zero_le _) (Nat.le_of_ble_eq_true rfl) (fun r13 V13 h13 => ?_)
    obtain ⟨⟨y13, rfl, hl13, hh13, hI13_0, hI13_1⟩, hE13⟩ := h13
    have hE13 := hE13.symm
    subst hE13
    refine Jz_if_ne (tgt := 21) jEq.rf dX3_lay_16 (by decide) (fun c16 => ?_) (fun c16 => ?_)
    · have q16_0 := hI13_0.of (by omega)
      exact False.elim (hp13.elim (fun h => by omega) (fun ⟨j, h1, h2⟩ => hI13_0.of (by omega) j h1 h2))
    · have q16_1 := hI13_1.of (by omega)
      refine Jz_iconst 0 dX3_lay_19 (by decide) (fun y19 he19 => ?_)
      exact J_ret (r := some (.int _)) dX3_lay_20 ⟨rfl, _, rfl, (nar_b (by (try simp only [he19.eq, true_and, and_true]) <;> omega) (by (try simp only [he19.eq, true_and, and_true]) <;> omega))⟩ (⟨⟨_, rfl, (by (try simp only [he19.eq, true_and, and_true]) <;> omega), (by (try simp only [he19.eq, true_and, and_true]) <;> omega), (by (try simp only [he19.eq, true_and, and_true]) <;> omega)⟩, rfl⟩)
set_option maxRecDepth 100000 in
set_option maxHeartbeats 8000000 in
theorem w_X3_lay_yes {tS : jTS} (d : Nat) (V0 : jH) {ln : Nat} (a0 : Nat) (x1 : Int32) (M : Int32) (g : Int32) (n : Int32) (s : Nat) (xx : Nat) (yy : Nat) (zz : Nat) (S : Nat → Int32) (X : Nat → Int32) (Y : Nat → Int32) (Z : Nat → Int32) (hd : 3 ≤ d) (hW : WT V0) (ha0 : jis V0 (.inr 1) a0) (hf_M : jfI V0 a0 1 0 M) (hf_g : jfI V0 a0 1 5 g) (hf_n : jfI V0 a0 1 6 n) (hr_s : jfR V0 a0 1 1 s) (hr_xx : jfR V0 a0 1 2 xx) (hr_yy : jfR V0 a0 1 3 yy) (hr_zz : jfR V0 a0 1 4 zz) (ha_S : V0 s = some (.inl (6, ln, .inl S))) (ha_X : V0 xx = some (.inl (34, ln + 1, .inl X))) (ha_Y : V0 yy = some (.inl (35, ln + 1, .inl Y))) (ha_Z : V0 zz = some (.inl (36, ln + 1, .inl Z))) (hp0 : M.toInt = (ln : Int)) (hp1 : (ln : Int) ≤ 120) (hp2 : n.toInt ≤ M.toInt) (hp3 : 0 ≤ g.toInt) (hp4 : g.toInt ≤ 3) (hp5 : 0 ≤ x1.toInt) (hp6 : x1.toInt < jdir g.toInt) (hp7 : -120 ≤ (X n.toInt.toNat).toInt) (hp8 : (X n.toInt.toNat).toInt ≤ 120) (hp9 : -120 ≤ (Y n.toInt.toNat).toInt) (hp10 : (Y n.toInt.toNat).toInt ≤ 120) (hp11 : -120 ≤ (Z n.toInt.toNat).toInt) (hp12 : (Z n.toInt.toNat).toInt ≤ 120) (hp13 : n.toInt < M.toInt) (hp14 : ∀ j : Nat, (j : Int) ≤ n.toInt → ¬ ((X j).toInt = (X n.toInt.toNat).toInt + jsx g.toInt x1.toInt ∧ (Y j).toInt = (Y n.toInt.toNat).toInt + jsy g.toInt x1.toInt ((X n.toInt.toNat).toInt + (Y n.toInt.toNat).toInt) ∧ (Z j).toInt = (Z n.toInt.toNat).toInt + jsz g.toInt x1.toInt)) : jTot tS mX3_lay d [.ref a0, .int x1] V0 0 0 (fun r V => (jPost [.inr 1, .inl 6, .inl 34, .inl 35, .inl 36] V0 (fun r _ => ∃ y : Int32, r = some (.int y) ∧ (0 ≤ y.toInt) ∧ (y.toInt ≤ 1) ∧ (y.toInt = 1))) r V ∧ (∃ S2 : Nat → Int32, V s = some (.inl (6, ln, .inl S2)) ∧ S2 n.toInt.toNat = x1 ∧ ∀ j : Nat, j ≠ n.toInt.toNat → S2 j = S j) ∧ (∃ X2 : Nat → Int32, V xx = some (.inl (34, ln + 1, .inl X2)) ∧ (X2 (n.toInt.toNat + 1)).toInt = (X n.toInt.toNat).toInt + jsx g.toInt x1.toInt ∧ ∀ j : Nat, j ≠ n.toInt.toNat + 1 → X2 j = X j) ∧ (∃ Y2 : Nat → Int32, V yy = some (.inl (35, ln + 1, .inl Y2)) ∧ (Y2 (n.toInt.toNat + 1)).toInt = (Y n.toInt.toNat).toInt + jsy g.toInt x1.toInt ((X n.toInt.toNat).toInt + (Y n.toInt.toNat).toInt) ∧ ∀ j : Nat, j ≠ n.toInt.toNat + 1 → Y2 j = Y j) ∧ (∃ Z2 : Nat → Int32, V zz = some (.inl (36, ln + 1, .inl Z2)) ∧ (Z2 (n.toInt.toNat + 1)).toInt = (Z n.toInt.toNat).toInt + jsz g.toInt x1.toInt ∧ ∀ j : Nat, j ≠ n.toInt.toNat + 1 → Z2 j = Z j) ∧ jfp [a0, s, xx, yy, zz] V0 V ∧ (∃ n2 : Int32, jfI V a0 1 6 n2 ∧ (n2.toInt = n.toInt + 1)) ∧ (∃ M2 : Int32, jfI V a0 1 0 M2 ∧ (M2.toInt = M.toInt)) ∧ (∃ g2 : Int32, jfI V a0 1 5 g2 ∧ (g2.toInt = g.toInt))) := by
  refine jTot.of_J [some (.ref a0), some (.int x1), none, none, none] moX3_lay (Nat.le_of_ble_eq_true rfl) rfl ?_
  have hrx1 := j_rng x1
  have he : jeff [.inr 1, .inl 6, .inl 34, .inl 35, .inl 36] V0 V0 := jeff.refl _ _
  have hfp : jfp [a0, s, xx, yy, zz] V0 V0 := jfp.rf
  obtain ⟨fs_a0, hO_a0, hK_a0⟩ := WT_obj hW id ha0
  have hF_M := hf_M.get hO_a0
  have hrM : 0 ≤ M.toInt ∧ M.toInt ≤ 120 := jok_rngI hK_a0 rfl hF_M
  have hF_g := hf_g.get hO_a0
  have hrg : (-2147483648) ≤ g.toInt ∧ g.toInt ≤ 2147483647 := jok_rngI hK_a0 rfl hF_g
  have hF_n := hf_n.get hO_a0
  have hrn : 0 ≤ n.toInt ∧ n.toInt ≤ 120 := jok_rngI hK_a0 rfl hF_n
  have hF_s := hr_s.get hO_a0
  obtain ⟨w_s, hFq_s, b_s, hbq_s, hb_s⟩ := hK_a0.2 1 (.inr (some (.inl 6))) rfl
  cases hF_s.symm.trans (hFq_s.trans (congrArg some hbq_s))
  have hF_xx := hr_xx.get hO_a0
  obtain ⟨w_xx, hFq_xx, b_xx, hbq_xx, hb_xx⟩ := hK_a0.2 2 (.inr (some (.inl 34))) rfl
  cases hF_xx.symm.trans (hFq_xx.trans (congrArg some hbq_xx))
  have hF_yy := hr_yy.get hO_a0
  obtain ⟨w_yy, hFq_yy, b_yy, hbq_yy, hb_yy⟩ := hK_a0.2 3 (.inr (some (.inl 35))) rfl
  cases hF_yy.symm.trans (hFq_yy.trans (congrArg some hbq_yy))
  have hF_zz := hr_zz.get hO_a0
  obtain ⟨w_zz, hFq_zz, b_zz, hbq_zz, hb_zz⟩ := hK_a0.2 4 (.inr (some (.inl 36))) rfl
  cases hF_zz.symm.trans (hFq_zz.trans (congrArg some hbq_zz))
  obtain ⟨hN_S, hv_S⟩ := WT_rngI (r := ((-2147483648), 2147483647)) hW id rfl ha_S
  clear hN_S
  obtain ⟨hN_X, hv_X⟩ := WT_rngI (r := ((-2147483648), 2147483647)) hW id rfl ha_X
  clear hN_X
  obtain ⟨hN_Y, hv_Y⟩ := WT_rngI (r := ((-2147483648), 2147483647)) hW id rfl ha_Y
  clear hN_Y
  obtain ⟨hN_Z, hv_Z⟩ := WT_rngI (r := ((-2147483648), 2147483647)) hW id rfl ha_Z
  clear hN_Z
  have hjd := jdir_cases g.toInt
  have hbx := jsx_b g.toInt x1.toInt
  have hby := jsy_b g.toInt x1.toInt ((X n.toInt.toNat).toInt + (Y n.toInt.toNat).toInt)
  have hbz := jsz_b g.toInt x1.toInt
  refine J_aload_n dX3_lay_0 rfl ?_
  refine J_get jf_X3_15 dX3_lay_1 hO_a0 hF_n ?_
  refine J_aload_n dX3_lay_4 rfl ?_
  refine J_get jf_X3_27 dX3_lay_5 hO_a0 hF_M ?_
  refine Jz_icmp_ge (tgt := 19) jEq.rf jEq.rf dX3_lay_8 (by decide) (fun c8 => ?_) (fun c8 => ?_)
  · refine Jz_iconst 0 dX3_lay_19 (by decide) (fun y19 he19 => ?_)
    exact False.elim (by first | omega | (obtain ⟨j, h1, h2⟩ := hI13_1.of (by omega); exact hp14 j h1 h2))
  · refine J_aload_n dX3_lay_11 rfl ?_
    refine J_iload_n dX3_lay_12 rfl ?_
    refine Jw_callV1 (q9 := (RX3, TX3, 7)) moX3_leads jw_ml_X3_73 jw_im_X3_leads jw_se_X3_leads ha0 rfl rfl dX3_lay_13 (w_X3_leads_z (d - 1) _ a0 x1 M g n s xx yy zz S X Y Z (by omega) hW  ha0 ⟨_, hO_a0, hF_M⟩ ⟨_, hO_a0, hF_g⟩ ⟨_, hO_a0, hF_n⟩ ⟨_, hO_a0, hF_s⟩ ⟨_, hO_a0, hF_xx⟩ ⟨_, hO_a0, hF_yy⟩ ⟨_, hO_a0, hF_zz⟩ ha_S ha_X ha_Y ha_Z (by omega) (by omega) (by omega) (by omega) (by omega) (by omega) (by omega) (by omega) (by omega) (by omega) (by omega) (by omega) (by omega)) (by omega) (Nat.zero_le _) (Nat.zero_le _) (Nat.le_of_ble_eq_true rfl) (fun r13 V13 h13 => ?_)
    obtain ⟨⟨y13, rfl, hl13, hh13, hI13_0, hI13_1⟩, hE13⟩ := h13
    have hE13 := hE13.symm
    subst hE13
    refine Jz_if_ne (tgt := 21) jEq.rf dX3_lay_16 (by decide) (fun c16 => ?_) (fun c16 => ?_)
    · have q16_0 := hI13_0.of (by omega)
      refine J_aload_n dX3_lay_21 rfl ?_
      refine Jw_callV0 (q9 := (RX3, TX3, 7)) moX3_endX jw_ml_X3_47 jw_im_X3_endX jw_se_X3_endX ha0 rfl rfl dX3_lay_22 (w_X3_endX_z (d - 1) _ a0 M g n s xx yy zz S X Y Z (by omega) hW  ha0 ⟨_, hO_a0, hF_M⟩ ⟨_, hO_a0, hF_g⟩ ⟨_, hO_a0, hF_n⟩ ⟨_, hO_a0, hF_s⟩ ⟨_, hO_a0, hF_xx⟩ ⟨_, hO_a0, hF_yy⟩ ⟨_, hO_a0, hF_zz⟩ ha_S ha_X ha_Y ha_Z (by omega) (by omega) (by omega)) (by omega) (Nat.zero_le _) (Nat.zero_le _) (Nat.le_of_ble_eq_true rfl) (fun r22 V22 h22 => ?_)
      obtain ⟨⟨y22, rfl, hl22, hh22, hP22_0⟩, hE22⟩ := h22
      have hE22 := hE22.symm
      subst hE22
      clear hl22 hh22
      have hz22 : jEq y22.toInt ((X (n.toInt).toNat).toInt) := hP22_0
      clear hP22_0
      refine J_aload_n dX3_lay_25 rfl ?_
      refine J_get jf_X3_9 dX3_lay_26 hO_a0 hF_g ?_
      refine J_iload_n dX3_lay_29 rfl ?_
      refine J_callS2 moX0_shiftX jw_ml_X3_51 jw_st_X0_shiftX dX3_lay_30 (w_X0_shiftX_z (d - 1) _ g x1 (by omega)   (by omega) (by omega) (by omega) (by omega)) (by omega) (Nat.zero_le _) (Nat.zero_le _) (Nat.le_of_ble_eq_true rfl) (fun r30 V30 h30 => ?_)
      obtain ⟨⟨y30, rfl, hl30, hh30, hP30_0⟩, hE30⟩ := h30
      have hE30 := hE30.symm
      subst hE30
      clear hl30 hh30
      have hz30 : jEq y30.toInt (jsx (g.toInt) (x1.toInt)) := hP30_0
      clear hP30_0
      refine Jz_iadd hz22 hz30 dX3_lay_33 (by omega) (by omega) (fun y33 he33 => ?_)
      refine J_istore_n dX3_lay_34 rfl (by decide) ?_
      refine J_aload_n dX3_lay_35 rfl ?_
      refine Jw_callV0 (q9 := (RX3, TX3, 7)) moX3_endY jw_ml_X3_56 jw_im_X3_endY jw_se_X3_endY ha0 rfl rfl dX3_lay_36 (w_X3_endY_z (d - 1) _ a0 M g n s xx yy zz S X Y Z (by omega) hW  ha0 ⟨_, hO_a0, hF_M⟩ ⟨_, hO_a0, hF_g⟩ ⟨_, hO_a0, hF_n⟩ ⟨_, hO_a0, hF_s⟩ ⟨_, hO_a0, hF_xx⟩ ⟨_, hO_a0, hF_yy⟩ ⟨_, hO_a0, hF_zz⟩ ha_S ha_X ha_Y ha_Z (by omega) (by omega) (by omega)) (by omega) (Nat.zero_le _) (Nat.zero_le _) (Nat.le_of_ble_eq_true rfl) (fun r36 V36 h36 => ?_)
      obtain ⟨⟨y36, rfl, hl36, hh36, hP36_0⟩, hE36⟩ := h36
      have hE36 := hE36.symm
      subst hE36
      clear hl36 hh36
      have hz36 : jEq y36.toInt ((Y (n.toInt).toNat).toInt) := hP36_0
      clear hP36_0
      refine J_aload_n dX3_lay_39 rfl ?_
      refine J_get jf_X3_9 dX3_lay_40 hO_a0 hF_g ?_
      refine J_iload_n dX3_lay_43 rfl ?_
      refine J_aload_n dX3_lay_44 rfl ?_
      refine Jw_callV0 (q9 := (RX3, TX3, 7)) moX3_endX jw_ml_X3_47 jw_im_X3_endX jw_se_X3_endX ha0 rfl rfl dX3_lay_45 (w_X3_endX_z (d - 1) _ a0 M g n s xx yy zz S X Y Z (by omega) hW  ha0 ⟨_, hO_a0, hF_M⟩ ⟨_, hO_a0, hF_g⟩ ⟨_, hO_a0, hF_n⟩ ⟨_, hO_a0, hF_s⟩ ⟨_, hO_a0, hF_xx⟩ ⟨_, hO_a0, hF_yy⟩ ⟨_, hO_a0, hF_zz⟩ ha_S ha_X ha_Y ha_Z (by omega) (by omega) (by omega)) (by omega) (Nat.zero_le _) (Nat.zero_le _) (Nat.le_of_ble_eq_true rfl) (fun r45 V45 h45 => ?_)
      obtain ⟨⟨y45, rfl, hl45, hh45, hP45_0⟩, hE45⟩ := h45
      have hE45 := hE45.symm
      subst hE45
      clear hl45 hh45
      have hz45 : jEq y45.toInt ((X (n.toInt).toNat).toInt) := hP45_0
      clear hP45_0
      refine J_aload_n dX3_lay_48 rfl ?_
      refine Jw_callV0 (q9 := (RX3, TX3, 7)) moX3_endY jw_ml_X3_56 jw_im_X3_endY jw_se_X3_endY ha0 rfl rfl dX3_lay_49 (w_X3_endY_z (d - 1) _ a0 M g n s xx yy zz S X Y Z (by omega) hW  ha0 ⟨_, hO_a0, hF_M⟩ ⟨_, hO_a0, hF_g⟩ ⟨_, hO_a0, hF_n⟩ ⟨_, hO_a0, hF_s⟩ ⟨_, hO_a0, hF_xx⟩ ⟨_, hO_a0, hF_yy⟩ ⟨_, hO_a0, hF_zz⟩ ha_S ha_X ha_Y ha_Z (by omega) (by omega) (by omega)) (by omega) (Nat.zero_le _) (Nat.zero_le _) (Nat.le_of_ble_eq_true rfl) (fun r49 V49 h49 => ?_)
      obtain ⟨⟨y49, rfl, hl49, hh49, hP49_0⟩, hE49⟩ := h49
      have hE49 := hE49.symm
      subst hE49
      clear hl49 hh49
      have hz49 : jEq y49.toInt ((Y (n.toInt).toNat).toInt) := hP49_0
      clear hP49_0
      refine J_callS4 moX0_shiftY jw_ml_X3_59 jw_st_X0_shiftY dX3_lay_52 (w_X0_shiftY_z (d - 1) _ g x1 y45 y49 (by omega)   (by omega) (by omega) (by omega) (by omega) (by (try simp only [hz45.eq, true_and, and_true]) <;> omega) (by (try simp only [hz45.eq, true_and, and_true]) <;> omega) (by (try simp only [hz49.eq, true_and, and_true]) <;> omega) (by (try simp only [hz49.eq, true_and, and_true]) <;> omega)) (by omega) (Nat.zero_le _) (Nat.zero_le _) (Nat.le_of_ble_eq_true rfl) (fun r52 V52 h52 => ?_)
      obtain ⟨⟨y52, rfl, hl52, hh52, hP52_0⟩, hE52⟩ := h52
      have hE52 := hE52.symm
      subst hE52
      clear hl52 hh52
      try simp only [hz45.eq, hz49.eq] at hP52_0
      have hz52 : jEq y52.toInt (jsy (g.toInt) (x1.toInt) (((X (n.toInt).toNat).toInt) + ((Y (n.toInt).toNat).toInt))) := hP52_0
      clear hP52_0
      refine Jz_iadd hz36 hz52 dX3_lay_55 (by omega) (by omega) (fun y55 he55 => ?_)
      refine J_istore_n dX3_lay_56 rfl (by decide) ?_
      refine J_aload_n dX3_lay_57 rfl ?_
      refine Jw_callV0 (q9 := (RX3, TX3, 7)) moX3_endZ jw_ml_X3_63 jw_im_X3_endZ jw_se_X3_endZ ha0 rfl rfl dX3_lay_58 (w_X3_endZ_z (d - 1) _ a0 M g n s xx yy zz S X Y Z (by omega) hW  ha0 ⟨_, hO_a0, hF_M⟩ ⟨_, hO_a0, hF_g⟩ ⟨_, hO_a0, hF_n⟩ ⟨_, hO_a0, hF_s⟩ ⟨_, hO_a0, hF_xx⟩ ⟨_, hO_a0, hF_yy⟩ ⟨_, hO_a0, hF_zz⟩ ha_S ha_X ha_Y ha_Z (by omega) (by omega) (by omega)) (by omega) (Nat.zero_le _) (Nat.zero_le _) (Nat.le_of_ble_eq_true rfl) (fun r58 V58 h58 => ?_)
      obtain ⟨⟨y58, rfl, hl58, hh58, hP58_0⟩, hE58⟩ := h58
      have hE58 := hE58.symm
      subst hE58
      clear hl58 hh58
      have hz58 : jEq y58.toInt ((Z (n.toInt).toNat).toInt) := hP58_0
      clear hP58_0
      refine J_aload_n dX3_lay_61 rfl ?_
      refine J_get jf_X3_9 dX3_lay_62 hO_a0 hF_g ?_
      refine J_iload_n dX3_lay_65 rfl ?_
      refine J_callS2 moX0_shiftZ jw_ml_X3_66 jw_st_X0_shiftZ dX3_lay_66 (w_X0_shiftZ_z (d - 1) _ g x1 (by omega)   (by omega) (by omega) (by omega) (by omega)) (by omega) (Nat.zero_le _) (Nat.zero_le _) (Nat.le_of_ble_eq_true rfl) (fun r66 V66 h66 => ?_)
      obtain ⟨⟨y66, rfl, hl66, hh66, hP66_0⟩, hE66⟩ := h66
      have hE66 := hE66.symm
      subst hE66
      clear hl66 hh66
      have hz66 : jEq y66.toInt (jsz (g.toInt) (x1.toInt)) := hP66_0
      clear hP66_0
      refine Jz_iadd hz58 hz66 dX3_lay_69 (by omega) (by omega) (fun y69 he69 => ?_)
      refine J_istore dX3_lay_70 rfl (by decide) ?_
      refine J_aload_n dX3_lay_72 rfl ?_
      refine J_get jf_X3_30 dX3_lay_73 hO_a0 hF_s ?_
      refine J_aload_n dX3_lay_76 rfl ?_
      refine J_get jf_X3_15 dX3_lay_77 hO_a0 hF_n ?_
      refine J_iload_n dX3_lay_80 rfl ?_
      refine J_callSN3 moX6_put (host := "WalkGrounds") (List.mem_of_getElem? (i := 1) rfl) jw_st_X6_put dX3_lay_81 (w_X6_put_z (d - 1) _ s n x1 hW ha_S (WT_rngI (r := (-2147483648, 2147483647)) hW id rfl ha_S).1 rfl rfl (by omega)) (by omega) (Nat.zero_le _) (Nat.zero_le _) (Nat.le_of_ble_eq_true rfl) (fun r81 V81 h81 => ?_)
      obtain ⟨rfl, hW, hx81, hB81, G81, hA81, hp81, ho81⟩ := h81
      obtain ⟨hN81, hv81⟩ := WT_rngI (r := (-2147483648, 2147483647)) hW id rfl hA81
      clear hN81
      have he := he.trans (hx81.sub (jsub_of rfl))
      have hfp := hfp.trans (jfp.one hB81 (List.mem_cons_of_mem _ List.mem_cons_self))
      have ha0 := ha0.mono hx81.1
      have hb_s := hb_s.mono hx81.1
      have hb_xx := hb_xx.mono hx81.1
      have hb_yy := hb_yy.mono hx81.1
      have hb_zz := hb_zz.mono hx81.1
      have hO_a0 := hx81.2 _ _ hO_a0 (jnot_of rfl)
      have hK_a0 := hK_a0.mono hx81.1
      have ha_X := hx81.2 _ _ ha_X (jnot_of rfl)
      have ha_Y := hx81.2 _ _ ha_Y (jnot_of rfl)
      have ha_Z := hx81.2 _ _ ha_Z (jnot_of rfl)
      · refine J_aload_n dX3_lay_84 rfl ?_
        refine J_dup dX3_lay_85 rfl ?_
        refine J_get jf_X3_15 dX3_lay_86 hO_a0 hF_n ?_
        refine Jz_iconst 1 dX3_lay_89 (by decide) (fun y89 he89 => ?_)
        refine Jz_iadd jEq.rf he89 dX3_lay_90 (by omega) (by omega) (fun y90 he90 => ?_)
        refine Jz_putI hO_a0 hW id rfl jf_X3_15 jt_X3_6 he90 dX3_lay_91 (by omega) (by omega) (fun _ _ => ⟨rfl, rfl⟩) (fun V91 fs91 hW hx91 hO91 hS91 hT91 hB91 => ?_)
        have hK91 : jokO _ (jFs 1) fs91 := hW _ _ id hO91
        have hF91_0 := (hT91 0 (by decide)).trans hF_M
        have hF91_5 := (hT91 5 (by decide)).trans hF_g
        have hF91_1 := (hT91 1 (by decide)).trans hF_s
        have hF91_2 := (hT91 2 (by decide)).trans hF_xx
        have hF91_3 := (hT91 3 (by decide)).trans hF_yy
        have hF91_4 := (hT91 4 (by decide)).trans hF_zz
        have he := he.trans (hx91.sub (jsub_of rfl))
        have hfp := hfp.trans (jfp.one hB91 List.mem_cons_self)
        have ha0 := ha0.mono hx91.1
        have hb_s := hb_s.mono hx91.1
        have hb_xx := hb_xx.mono hx91.1
        have hb_yy := hb_yy.mono hx91.1
        have hb_zz := hb_zz.mono hx91.1
        have ha_X := hx91.2 _ _ ha_X (jnot_of rfl)
        have ha_Y := hx91.2 _ _ ha_Y (jnot_of rfl)
        have ha_Z := hx91.2 _ _ ha_Z (jnot_of rfl)
        have hA81 := hx91.2 _ _ hA81 (jnot_of rfl)
        refine J_aload_n dX3_lay_94 rfl ?_
        refine J_get jf_X3_34 dX3_lay_95 hO91 hF91_2 ?_
        refine J_aload_n dX3_lay_98 rfl ?_
        refine J_get jf_X3_15 dX3_lay_99 hO91 hS91 ?_
        refine J_iload_n dX3_lay_102 rfl ?_
        refine J_callSN3 moX6_put (host := "WalkGrounds") (List.mem_of_getElem? (i := 1) rfl) jw_st_X6_put dX3_lay_103 (w_X6_put_z (d - 1) _ xx y90 y33 hW ha_X (WT_rngI (r := (-2147483648, 2147483647)) hW id rfl ha_X).1 rfl rfl (by (try simp only [he90.eq, true_and, and_true]) <;> omega)) (by omega) (Nat.zero_le _) (Nat.zero_le _) (Nat.le_of_ble_eq_true rfl) (fun r103 V103 h103 => ?_)
        obtain ⟨rfl, hW, hx103, hB103, G103, hA103, hp103, ho103⟩ := h103
        simp only [he90.eq] at hp103 ho103
        obtain ⟨hN103, hv103⟩ := WT_rngI (r := (-2147483648, 2147483647)) hW id rfl hA103
        clear hN103
        have he := he.trans (hx103.sub (jsub_of rfl))
        have hfp := hfp.trans (jfp.one hB103 (List.mem_cons_of_mem _ (List.mem_cons_of_mem _ List.mem_cons_self)))
        have ha0 := ha0.mono hx103.1
        have hb_s := hb_s.mono hx103.1
        have hb_xx := hb_xx.mono hx103.1
        have hb_yy := hb_yy.mono hx103.1
        have hb_zz := hb_zz.mono hx103.1
        have hO91 := hx103.2 _ _ hO91 (jnot_of rfl)
        have hK91 := hK91.mono hx103.1
        have ha_Y := hx103.2 _ _ ha_Y (jnot_of rfl)
        have ha_Z := hx103.2 _ _ ha_Z (jnot_of rfl)
        have hA81 := hx103.2 _ _ hA81 (jnot_of rfl)
        · refine J_aload_n dX3_lay_106 rfl ?_
          refine J_get jf_X3_37 dX3_lay_107 hO91 hF91_3 ?_
          refine J_aload_n dX3_lay_110 rfl ?_
          refine J_get jf_X3_15 dX3_lay_111 hO91 hS91 ?_
          refine J_iload_n dX3_lay_114 rfl ?_
          refine J_callSN3 moX6_put (host := "WalkGrounds") (List.mem_of_getElem? (i := 1) rfl) jw_st_X6_put dX3_lay_115 (w_X6_put_z (d - 1) _ yy y90 y55 hW ha_Y (WT_rngI (r := (-2147483648, 2147483647)) hW id rfl ha_Y).1 rfl rfl (by (try simp only [he90.eq, true_and, and_true]) <;> omega)) (by omega) (Nat.zero_le _) (Nat.zero_le _) (Nat.le_of_ble_eq_true rfl) (fun r115 V115 h115 => ?_)
          obtain ⟨rfl, hW, hx115, hB115, G115, hA115, hp115, ho115⟩ := h115
          simp only [he90.eq] at hp115 ho115
          obtain ⟨hN115, hv115⟩ := WT_rngI (r := (-2147483648, 2147483647)) hW id rfl hA115
          clear hN115
          have he := he.trans (hx115.sub (jsub_of rfl))
          have hfp := hfp.trans (jfp.one hB115 (List.mem_cons_of_mem _ (List.mem_cons_of_mem _ (List.mem_cons_of_mem _ List.mem_cons_self))))
          have ha0 := ha0.mono hx115.1
          have hb_s := hb_s.mono hx115.1
          have hb_xx := hb_xx.mono hx115.1
          have hb_yy := hb_yy.mono hx115.1
          have hb_zz := hb_zz.mono hx115.1
          have hO91 := hx115.2 _ _ hO91 (jnot_of rfl)
          have hK91 := hK91.mono hx115.1
          have ha_Z := hx115.2 _ _ ha_Z (jnot_of rfl)
          have hA81 := hx115.2 _ _ hA81 (jnot_of rfl)
          have hA103 := hx115.2 _ _ hA103 (jnot_of rfl)
          · refine J_aload_n dX3_lay_118 rfl ?_
            refine J_get jf_X3_40 dX3_lay_119 hO91 hF91_4 ?_
            refine J_aload_n dX3_lay_122 rfl ?_
            refine J_get jf_X3_15 dX3_lay_123 hO91 hS91 ?_
            refine J_iload dX3_lay_126 rfl ?_
            refine J_callSN3 moX6_put (host := "WalkGrounds") (List.mem_of_getElem? (i := 1) rfl) jw_st_X6_put dX3_lay_128 (w_X6_put_z (d - 1) _ zz y90 y69 hW ha_Z (WT_rngI (r := (-2147483648, 2147483647)) hW id rfl ha_Z).1 rfl rfl (by (try simp only [he90.eq, true_and, and_true]) <;> omega)) (by omega) (Nat.zero_le _) (Nat.zero_le _) (Nat.le_of_ble_eq_true rfl) (fun r128 V128 h128 => ?_)
            obtain ⟨rfl, hW, hx128, hB128, G128, hA128, hp128, ho128⟩ := h128
            simp only [he90.eq] at hp128 ho128
            obtain ⟨hN128, hv128⟩ := WT_rngI (r := (-2147483648, 2147483647)) hW id rfl hA128
            clear hN128
            have he := he.trans (hx128.sub (jsub_of rfl))
            have hfp := hfp.trans (jfp.one hB128 (List.mem_cons_of_mem _ (List.mem_cons_of_mem _ (List.mem_cons_of_mem _ (List.mem_cons_of_mem _ List.mem_cons_self)))))
            have ha0 := ha0.mono hx128.1
            have hb_s := hb_s.mono hx128.1
            have hb_xx := hb_xx.mono hx128.1
            have hb_yy := hb_yy.mono hx128.1
            have hb_zz := hb_zz.mono hx128.1
            have hO91 := hx128.2 _ _ hO91 (jnot_of rfl)
            have hK91 := hK91.mono hx128.1
            have hA81 := hx128.2 _ _ hA81 (jnot_of rfl)
            have hA103 := hx128.2 _ _ hA103 (jnot_of rfl)
            have hA115 := hx128.2 _ _ hA115 (jnot_of rfl)
            · refine Jz_iconst 1 dX3_lay_131 (by decide) (fun y131 he131 => ?_)
              exact J_ret (r := some (.int _)) dX3_lay_132 ⟨rfl, _, rfl, (nar_b (by (try simp only [he131.eq, true_and, and_true]) <;> omega) (by (try simp only [he131.eq, true_and, and_true]) <;> omega))⟩ (⟨⟨hW, he, ⟨_, rfl, (by (try simp only [he131.eq, true_and, and_true]) <;> omega), (by (try simp only [he131.eq, true_and, and_true]) <;> omega), (by (try simp only [he131.eq, true_and, and_true]) <;> omega)⟩⟩, ⟨G81, hA81, hp81 (by omega), ho81⟩, ⟨G103, hA103, (by rw [show n.toInt.toNat + 1 = (n.toInt + 1).toNat by omega, hp103 (by omega), he33.eq]), (fun j hj => ho103 j (by omega))⟩, ⟨G115, hA115, (by rw [show n.toInt.toNat + 1 = (n.toInt + 1).toNat by omega, hp115 (by omega), he55.eq]), (fun j hj => ho115 j (by omega))⟩, ⟨G128, hA128, (by rw [show n.toInt.toNat + 1 = (n.toInt + 1).toNat by omega, hp128 (by omega), he69.eq]), (fun j hj => ho128 j (by omega))⟩, hfp, ⟨_, ⟨_, hO91, hS91⟩, (by (try simp only [he90.eq, true_and, and_true]) <;> omega)⟩, ⟨_, ⟨_, hO91, hF91_0⟩, (by omega)⟩, ⟨_, ⟨_, hO91, hF91_5⟩, (by omega)⟩⟩)
    · have q16_1 := hI13_1.of (by omega)
      refine Jz_iconst 0 dX3_lay_19 (by decide) (fun y19 he19 => ?_)
      exact False.elim (by first | omega | (obtain ⟨j, h1, h2⟩ := hI13_1.of (by omega); exact hp14 j h1 h2))
set_option maxRecDepth 100000 in
set_option maxHeartbeats 8000000 in
theorem w_X3_drop_z {tS : jTS} (d : Nat) (V0 : jH) (a0 : Nat) (x1 : Int32) (M : Int32) (g : Int32) (n : Int32) (hd : 1 ≤ d) (hW : WT V0) (ha0 : jis V0 (.inr 1) a0) (hf_M : jfI V0 a0 1 0 M) (hf_g : jfI V0 a0 1 5 g) (hf_n : jfI V0 a0 1 6 n) (hp0 : 0 ≤ x1.toInt) (hp1 : x1.toInt ≤ n.toInt) : jTot tS mX3_drop d [.ref a0, .int x1] V0 0 0 (fun r V => (jPost [.inr 1] V0 rV) r V ∧ jfp [a0] V0 V ∧ (∃ M2 : Int32, jfI V a0 1 0 M2 ∧ (M2.toInt = M.toInt)) ∧ (∃ g2 : Int32, jfI V a0 1 5 g2 ∧ (g2.toInt = g.toInt)) ∧ (∃ n2 : Int32, jfI V a0 1 6 n2 ∧ (n2.toInt = n.toInt - x1.toInt))) := by
  refine jTot.of_J [some (.ref a0), some (.int x1)] moX3_drop (Nat.le_of_ble_eq_true rfl) rfl ?_
  have hrx1 := j_rng x1
  have he : jeff [.inr 1] V0 V0 := jeff.refl _ _
  have hfp : jfp [a0] V0 V0 := jfp.rf
  obtain ⟨fs_a0, hO_a0, hK_a0⟩ := WT_obj hW id ha0
  have hF_M := hf_M.get hO_a0
  have hrM : 0 ≤ M.toInt ∧ M.toInt ≤ 120 := jok_rngI hK_a0 rfl hF_M
  have hF_g := hf_g.get hO_a0
  have hrg : (-2147483648) ≤ g.toInt ∧ g.toInt ≤ 2147483647 := jok_rngI hK_a0 rfl hF_g
  have hF_n := hf_n.get hO_a0
  have hrn : 0 ≤ n.toInt ∧ n.toInt ≤ 120 := jok_rngI hK_a0 rfl hF_n
  refine J_aload_n dX3_drop_0 rfl ?_
  refine Jz_iconst 0 dX3_drop_1 (by decide) (fun y1 he1 => ?_)
  refine J_aload_n dX3_drop_2 rfl ?_
  refine J_get jf_X3_15 dX3_drop_3 hO_a0 hF_n ?_
  refine Jz_iconst 0 dX3_drop_6 (by decide) (fun y6 he6 => ?_)
  refine J_iload_n dX3_drop_7 rfl ?_
  refine J_mmax jw_ml_X3_24 dX3_drop_8 (by omega) (Nat.le_of_ble_eq_true rfl) ?_
  have hz8 : jEq (if y6 < x1 then x1 else y6).toInt (x1.toInt) := by have q := jmaxi (x := y6) (y := x1) he6 jEq.rf; exact (show (if y6 < x1 then x1 else y6).toInt = x1.toInt by omega)
  generalize (if y6 < x1 then x1 else y6) = y8 at hz8 ⊢
  refine Jz_isub jEq.rf hz8 dX3_drop_11 (by omega) (by omega) (fun y11 he11 => ?_)
  refine J_mmax jw_ml_X3_24 dX3_drop_12 (by omega) (Nat.le_of_ble_eq_true rfl) ?_
  have hz12 : jEq (if y1 < y11 then y11 else y1).toInt (n.toInt - x1.toInt) := by have q := jmaxi (x := y1) (y := y11) he1 he11; exact (show (if y1 < y11 then y11 else y1).toInt = n.toInt - x1.toInt by omega)
  generalize (if y1 < y11 then y11 else y1) = y12 at hz12 ⊢
  refine Jz_putI hO_a0 hW id rfl jf_X3_15 jt_X3_6 hz12 dX3_drop_15 (by omega) (by omega) (fun _ _ => ⟨rfl, rfl⟩) (fun V15 fs15 hW hx15 hO15 hS15 hT15 hB15 => ?_)
  have hK15 : jokO _ (jFs 1) fs15 := hW _ _ id hO15
  have hF15_0 := (hT15 0 (by decide)).trans hF_M
  have hF15_5 := (hT15 5 (by decide)).trans hF_g
  have he := he.trans (hx15.sub (jsub_of rfl))
  have hfp := hfp.trans (jfp.one hB15 List.mem_cons_self)
  have ha0 := ha0.mono hx15.1
  exact J_ret (r := none) dX3_drop_18 ⟨rfl, rfl⟩ (⟨⟨hW, he, rfl⟩, hfp, ⟨_, ⟨_, hO15, hF15_0⟩, (by omega)⟩, ⟨_, ⟨_, hO15, hF15_5⟩, (by omega)⟩, ⟨_, ⟨_, hO15, hS15⟩, (by (try simp only [hz12.eq, true_and, and_true]) <;> omega)⟩⟩)
set_option maxRecDepth 100000 in
set_option maxHeartbeats 8000000 in
theorem w_X3_become_z {tS : jTS} (d : Nat) (V0 : jH) {ln lb : Nat} (a0 : Nat) (a1 : Nat) (M : Int32) (gb : Int32) (nb : Int32) (s : Nat) (xx : Nat) (yy : Nat) (zz : Nat) (sb : Nat) (xb : Nat) (yb : Nat) (zb : Nat) (S : Nat → Int32) (X : Nat → Int32) (Y : Nat → Int32) (Z : Nat → Int32) (SB : Nat → Int32) (XB : Nat → Int32) (YB : Nat → Int32) (ZB : Nat → Int32) (hd : 1 ≤ d) (hW : WT V0) (ha0 : jis V0 (.inr 1) a0) (ha1 : jis V0 (.inr 1) a1) (hf_M : jfI V0 a0 1 0 M) (hf_gb : jfI V0 a1 1 5 gb) (hf_nb : jfI V0 a1 1 6 nb) (hr_s : jfR V0 a0 1 1 s) (hr_xx : jfR V0 a0 1 2 xx) (hr_yy : jfR V0 a0 1 3 yy) (hr_zz : jfR V0 a0 1 4 zz) (hr_sb : jfR V0 a1 1 1 sb) (hr_xb : jfR V0 a1 1 2 xb) (hr_yb : jfR V0 a1 1 3 yb) (hr_zb : jfR V0 a1 1 4 zb) (hs0 : a1 ≠ a0) (hs1 : sb ≠ s) (hs2 : xb ≠ xx) (hs3 : yb ≠ yy) (hs4 : zb ≠ zz) (ha_S : V0 s = some (.inl (6, ln, .inl S))) (ha_X : V0 xx = some (.inl (34, ln + 1, .inl X))) (ha_Y : V0 yy = some (.inl (35, ln + 1, .inl Y))) (ha_Z : V0 zz = some (.inl (36, ln + 1, .inl Z))) (ha_SB : V0 sb = some (.inl (6, lb, .inl SB))) (ha_XB : V0 xb = some (.inl (34, lb + 1, .inl XB))) (ha_YB : V0 yb = some (.inl (35, lb + 1, .inl YB))) (ha_ZB : V0 zb = some (.inl (36, lb + 1, .inl ZB))) (hp0 : M.toInt = (ln : Int)) (hp1 : (ln : Int) ≤ 120) (hp2 : (lb : Int) ≤ 120) (hp3 : nb.toInt ≤ M.toInt) (hp4 : nb.toInt ≤ (lb : Int)) : jTot tS mX3_become d [.ref a0, .ref a1] V0 0 0 (fun r V => (jPost [.inr 1, .inl 6, .inl 34, .inl 35, .inl 36] V0 rV) r V ∧ (∃ S2 : Nat → Int32, V s = some (.inl (6, ln, .inl S2)) ∧ ∀ j : Nat, (j : Int) < nb.toInt → S2 j = SB j) ∧ (∃ X2 : Nat → Int32, V xx = some (.inl (34, ln + 1, .inl X2)) ∧ ∀ j : Nat, (j : Int) ≤ nb.toInt → X2 j = XB j) ∧ (∃ Y2 : Nat → Int32, V yy = some (.inl (35, ln + 1, .inl Y2)) ∧ ∀ j : Nat, (j : Int) ≤ nb.toInt → Y2 j = YB j) ∧ (∃ Z2 : Nat → Int32, V zz = some (.inl (36, ln + 1, .inl Z2)) ∧ ∀ j : Nat, (j : Int) ≤ nb.toInt → Z2 j = ZB j) ∧ jfp [a0, s, xx, yy, zz] V0 V ∧ (∃ M2 : Int32, jfI V a0 1 0 M2 ∧ (M2.toInt = M.toInt)) ∧ (∃ g2 : Int32, jfI V a0 1 5 g2 ∧ (g2.toInt = gb.toInt)) ∧ (∃ n2 : Int32, jfI V a0 1 6 n2 ∧ (n2.toInt = nb.toInt))) := by
  refine jTot.of_J [some (.ref a0), some (.ref a1), none] moX3_become (Nat.le_of_ble_eq_true rfl) rfl ?_
  have he : jeff [.inr 1, .inl 6, .inl 34, .inl 35, .inl 36] V0 V0 := jeff.refl _ _
  have hfp : jfp [a0, s, xx, yy, zz] V0 V0 := jfp.rf
  obtain ⟨fs_a0, hO_a0, hK_a0⟩ := WT_obj hW id ha0
  obtain ⟨fs_a1, hO_a1, hK_a1⟩ := WT_obj hW id ha1
  have hF_M := hf_M.get hO_a0
  have hrM : 0 ≤ M.toInt ∧ M.toInt ≤ 120 := jok_rngI hK_a0 rfl hF_M
  have hF_gb := hf_gb.get hO_a1
  have hrgb : (-2147483648) ≤ gb.toInt ∧ gb.toInt ≤ 2147483647 := jok_rngI hK_a1 rfl hF_gb
  have hF_nb := hf_nb.get hO_a1
  have hrnb : 0 ≤ nb.toInt ∧ nb.toInt ≤ 120 := jok_rngI hK_a1 rfl hF_nb
  have hF_s := hr_s.get hO_a0
  obtain ⟨w_s, hFq_s, b_s, hbq_s, hb_s⟩ := hK_a0.2 1 (.inr (some (.inl 6))) rfl
  cases hF_s.symm.trans (hFq_s.trans (congrArg some hbq_s))
  have hF_xx := hr_xx.get hO_a0
  obtain ⟨w_xx, hFq_xx, b_xx, hbq_xx, hb_xx⟩ := hK_a0.2 2 (.inr (some (.inl 34))) rfl
  cases hF_xx.symm.trans (hFq_xx.trans (congrArg some hbq_xx))
  have hF_yy := hr_yy.get hO_a0
  obtain ⟨w_yy, hFq_yy, b_yy, hbq_yy, hb_yy⟩ := hK_a0.2 3 (.inr (some (.inl 35))) rfl
  cases hF_yy.symm.trans (hFq_yy.trans (congrArg some hbq_yy))
  have hF_zz := hr_zz.get hO_a0
  obtain ⟨w_zz, hFq_zz, b_zz, hbq_zz, hb_zz⟩ := hK_a0.2 4 (.inr (some (.inl 36))) rfl
  cases hF_zz.symm.trans (hFq_zz.trans (congrArg some hbq_zz))
  have hF_sb := hr_sb.get hO_a1
  obtain ⟨w_sb, hFq_sb, b_sb, hbq_sb, hb_sb⟩ := hK_a1.2 1 (.inr (some (.inl 6))) rfl
  cases hF_sb.symm.trans (hFq_sb.trans (congrArg some hbq_sb))
  have hF_xb := hr_xb.get hO_a1
  obtain ⟨w_xb, hFq_xb, b_xb, hbq_xb, hb_xb⟩ := hK_a1.2 2 (.inr (some (.inl 34))) rfl
  cases hF_xb.symm.trans (hFq_xb.trans (congrArg some hbq_xb))
  have hF_yb := hr_yb.get hO_a1
  obtain ⟨w_yb, hFq_yb, b_yb, hbq_yb, hb_yb⟩ := hK_a1.2 3 (.inr (some (.inl 35))) rfl
  cases hF_yb.symm.trans (hFq_yb.trans (congrArg some hbq_yb))
  have hF_zb := hr_zb.get hO_a1
  obtain ⟨w_zb, hFq_zb, b_zb, hbq_zb, hb_zb⟩ := hK_a1.2 4 (.inr (some (.inl 36))) rfl
  cases hF_zb.symm.trans (hFq_zb.trans (congrArg some hbq_zb))
  obtain ⟨hN_S, hv_S⟩ := WT_rngI (r := ((-2147483648), 2147483647)) hW id rfl ha_S
  clear hN_S
  obtain ⟨hN_X, hv_X⟩ := WT_rngI (r := ((-2147483648), 2147483647)) hW id rfl ha_X
  clear hN_X
  obtain ⟨hN_Y, hv_Y⟩ := WT_rngI (r := ((-2147483648), 2147483647)) hW id rfl ha_Y
  clear hN_Y
  obtain ⟨hN_Z, hv_Z⟩ := WT_rngI (r := ((-2147483648), 2147483647)) hW id rfl ha_Z
  clear hN_Z
  obtain ⟨hN_SB, hv_SB⟩ := WT_rngI (r := ((-2147483648), 2147483647)) hW id rfl ha_SB
  clear hN_SB
  obtain ⟨hN_XB, hv_XB⟩ := WT_rngI (r := ((-2147483648), 2147483647)) hW id rfl ha_XB
  clear hN_XB
  obtain ⟨hN_YB, hv_YB⟩ := WT_rngI (r := ((-2147483648), 2147483647)) hW id rfl ha_YB
  clear hN_YB
  obtain ⟨hN_ZB, hv_ZB⟩ := WT_rngI (r := ((-2147483648), 2147483647)) hW id rfl ha_ZB
  clear hN_ZB
  refine J_aload_n dX3_become_0 rfl ?_
  refine J_ifnull dX3_become_1 ?_
  refine J_aload_n dX3_become_4 rfl ?_
  refine J_get jf_X3_15 dX3_become_5 hO_a1 hF_nb ?_
  refine J_aload_n dX3_become_8 rfl ?_
  refine J_get jf_X3_27 dX3_become_9 hO_a0 hF_M ?_
  refine Jz_icmp_le (tgt := 16) jEq.rf jEq.rf dX3_become_12 (by decide) (fun c12 => ?_) (fun c12 => ?_)
  · refine J_aload_n dX3_become_16 rfl ?_
    refine J_aload_n dX3_become_17 rfl ?_
    refine J_get jf_X3_9 dX3_become_18 hO_a1 hF_gb ?_
    refine Jz_putI hO_a0 hW id rfl jf_X3_9 jt_X3_5 jEq.rf dX3_become_21 (j_rng _).1 (j_rng _).2 (fun _ _ => ⟨rfl, rfl⟩) (fun V21 fs21 hW hx21 hO21 hS21 hT21 hB21 => ?_)
    have hK21 : jokO _ (jFs 1) fs21 := hW _ _ id hO21
    have hF21_0 := (hT21 0 (by decide)).trans hF_M
    have hF21_1 := (hT21 1 (by decide)).trans hF_s
    have hF21_2 := (hT21 2 (by decide)).trans hF_xx
    have hF21_3 := (hT21 3 (by decide)).trans hF_yy
    have hF21_4 := (hT21 4 (by decide)).trans hF_zz
    have he := he.trans (hx21.sub (jsub_of rfl))
    have hfp := hfp.trans (jfp.one hB21 List.mem_cons_self)
    have ha0 := ha0.mono hx21.1
    have ha1 := ha1.mono hx21.1
    have hb_s := hb_s.mono hx21.1
    have hb_xx := hb_xx.mono hx21.1
    have hb_yy := hb_yy.mono hx21.1
    have hb_zz := hb_zz.mono hx21.1
    have hb_sb := hb_sb.mono hx21.1
    have hb_xb := hb_xb.mono hx21.1
    have hb_yb := hb_yb.mono hx21.1
    have hb_zb := hb_zb.mono hx21.1
    have hO_a1 := (hB21 a1 hs0).trans hO_a1
    have hK_a1 := hK_a1.mono hx21.1
    have ha_S := hx21.2 _ _ ha_S (jnot_of rfl)
    have ha_X := hx21.2 _ _ ha_X (jnot_of rfl)
    have ha_Y := hx21.2 _ _ ha_Y (jnot_of rfl)
    have ha_Z := hx21.2 _ _ ha_Z (jnot_of rfl)
    have ha_SB := hx21.2 _ _ ha_SB (jnot_of rfl)
    have ha_XB := hx21.2 _ _ ha_XB (jnot_of rfl)
    have ha_YB := hx21.2 _ _ ha_YB (jnot_of rfl)
    have ha_ZB := hx21.2 _ _ ha_ZB (jnot_of rfl)
    refine J_aload_n dX3_become_24 rfl ?_
    refine J_aload_n dX3_become_25 rfl ?_
    refine J_get jf_X3_15 dX3_become_26 hO_a1 hF_nb ?_
    refine Jz_putI hO21 hW id rfl jf_X3_15 jt_X3_6 jEq.rf dX3_become_29 (by omega) (by omega) (fun _ _ => ⟨rfl, rfl⟩) (fun V29 fs29 hW hx29 hO29 hS29 hT29 hB29 => ?_)
    have hK29 : jokO _ (jFs 1) fs29 := hW _ _ id hO29
    have hF29_5 := (hT29 5 (by decide)).trans hS21
    have hF29_0 := (hT29 0 (by decide)).trans hF21_0
    have hF29_1 := (hT29 1 (by decide)).trans hF21_1
    have hF29_2 := (hT29 2 (by decide)).trans hF21_2
    have hF29_3 := (hT29 3 (by decide)).trans hF21_3
    have hF29_4 := (hT29 4 (by decide)).trans hF21_4
    have he := he.trans (hx29.sub (jsub_of rfl))
    have hfp := hfp.trans (jfp.one hB29 List.mem_cons_self)
    have ha0 := ha0.mono hx29.1
    have ha1 := ha1.mono hx29.1
    have hb_s := hb_s.mono hx29.1
    have hb_xx := hb_xx.mono hx29.1
    have hb_yy := hb_yy.mono hx29.1
    have hb_zz := hb_zz.mono hx29.1
    have hb_sb := hb_sb.mono hx29.1
    have hb_xb := hb_xb.mono hx29.1
    have hb_yb := hb_yb.mono hx29.1
    have hb_zb := hb_zb.mono hx29.1
    have hO_a1 := (hB29 a1 hs0).trans hO_a1
    have hK_a1 := hK_a1.mono hx29.1
    have ha_S := hx29.2 _ _ ha_S (jnot_of rfl)
    have ha_X := hx29.2 _ _ ha_X (jnot_of rfl)
    have ha_Y := hx29.2 _ _ ha_Y (jnot_of rfl)
    have ha_Z := hx29.2 _ _ ha_Z (jnot_of rfl)
    have ha_SB := hx29.2 _ _ ha_SB (jnot_of rfl)
    have ha_XB := hx29.2 _ _ ha_XB (jnot_of rfl)
    have ha_YB := hx29.2 _ _ ha_YB (jnot_of rfl)
    have ha_ZB := hx29.2 _ _ ha_ZB (jnot_of rfl)
    refine Jz_iconst 0 dX3_become_32 (by decide) (fun y32 he32 => ?_)
    refine J_istore_n dX3_become_33 rfl (by decide) ?_
    have L34 : ∀ (N : Nat) (V : jH) (i2n34 : Int32) (F6n34 : Nat → Int32) (F34n34 : Nat → Int32) (F35n34 : Nat → Int32) (F36n34 : Nat → Int32), WT V → jeff [.inr 1, .inl 6, .inl 34, .inl 35, .inl 36] V0 V → (jis V (.inr 1) a0) → (jis V (.inr 1) a1) → (jis V (.inl 6) s) → (jis V (.inl 34) xx) → (jis V (.inl 35) yy) → (jis V (.inl 36) zz) → (jis V (.inl 6) sb) → (jis V (.inl 34) xb) → (jis V (.inl 35) yb) → (jis V (.inl 36) zb) → (jfp [a0, s, xx, yy, zz] V0 V) → (V a0 = some (.inr (1, fs29))) → (jokO V (jFs 1) fs29) → (V a1 = some (.inr (1, fs_a1))) → (jokO V (jFs 1) fs_a1) → (V s = some (.inl (6, ln, .inl F6n34))) → (V xx = some (.inl (34, ln + 1, .inl F34n34))) → (V yy = some (.inl (35, ln + 1, .inl F35n34))) → (V zz = some (.inl (36, ln + 1, .inl F36n34))) → (V sb = some (.inl (6, lb, .inl SB))) → (V xb = some (.inl (34, lb + 1, .inl XB))) → (V yb = some (.inl (35, lb + 1, .inl YB))) → (V zb = some (.inl (36, lb + 1, .inl ZB))) → (0 ≤ i2n34.toInt ∧ i2n34.toInt ≤ nb.toInt + 1) → (∀ j : Nat, (j : Int) < i2n34.toInt → (j : Int) < nb.toInt → F6n34 j = SB j) → (∀ j : Nat, (j : Int) < i2n34.toInt → F34n34 j = XB j) → (∀ j : Nat, (j : Int) < i2n34.toInt → F35n34 j = YB j) → (∀ j : Nat, (j : Int) < i2n34.toInt → F36n34 j = ZB j) → (nb.toInt + 1 - i2n34.toInt).toNat < N → J tS mX3_become d 34 [some (.ref a0), some (.ref a1), some (.int i2n34)] [] V 0 0 (fun r V => (jPost [.inr 1, .inl 6, .inl 34, .inl 35, .inl 36] V0 rV) r V ∧ (∃ S2 : Nat → Int32, V s = some (.inl (6, ln, .inl S2)) ∧ ∀ j : Nat, (j : Int) < nb.toInt → S2 j = SB j) ∧ (∃ X2 : Nat → Int32, V xx = some (.inl (34, ln + 1, .inl X2)) ∧ ∀ j : Nat, (j : Int) ≤ nb.toInt → X2 j = XB j) ∧ (∃ Y2 : Nat → Int32, V yy = some (.inl (35, ln + 1, .inl Y2)) ∧ ∀ j : Nat, (j : Int) ≤ nb.toInt → Y2 j = YB j) ∧ (∃ Z2 : Nat → Int32, V zz = some (.inl (36, ln + 1, .inl Z2)) ∧ ∀ j : Nat, (j : Int) ≤ nb.toInt → Z2 j = ZB j) ∧ jfp [a0, s, xx, yy, zz] V0 V ∧ (∃ M2 : Int32, jfI V a0 1 0 M2 ∧ (M2.toInt = M.toInt)) ∧ (∃ g2 : Int32, jfI V a0 1 5 g2 ∧ (g2.toInt = gb.toInt)) ∧ (∃ n2 : Int32, jfI V a0 1 6 n2 ∧ (n2.toInt = nb.toInt))) := by
      intro N
      induction N with
      | zero => intro V i2n34 F6n34 F34n34 F35n34 F36n34 hW he ha0 ha1 hb_s hb_xx hb_yy hb_zz hb_sb hb_xb hb_yb hb_zb hfp hO29 hK29 hO_a1 hK_a1 hAF6n34 hAF34n34 hAF35n34 hAF36n34 ha_SB ha_XB ha_YB ha_ZB hi2 hs hxv hyv hzv hm; exact absurd hm (Nat.not_lt_zero _)
      | succ N ih =>
        intro V i2n34 F6n34 F34n34 F35n34 F36n34 hW he ha0 ha1 hb_s hb_xx hb_yy hb_zz hb_sb hb_xb hb_yb hb_zb hfp hO29 hK29 hO_a1 hK_a1 hAF6n34 hAF34n34 hAF35n34 hAF36n34 ha_SB ha_XB ha_YB ha_ZB hi2 hs hxv hyv hzv hm
        have ih34 := ih
        have hri2 := j_rng i2n34
        obtain ⟨hNF6n34, hvF6n34⟩ := WT_rngI (r := ((-2147483648), 2147483647)) hW id rfl hAF6n34
        clear hNF6n34
        obtain ⟨hNF34n34, hvF34n34⟩ := WT_rngI (r := ((-2147483648), 2147483647)) hW id rfl hAF34n34
        clear hNF34n34
        obtain ⟨hNF35n34, hvF35n34⟩ := WT_rngI (r := ((-2147483648), 2147483647)) hW id rfl hAF35n34
        clear hNF35n34
        obtain ⟨hNF36n34, hvF36n34⟩ := WT_rngI (r := ((-2147483648), 2147483647)) hW id rfl hAF36n34
        clear hNF36n34
        refine J_iload_n dX3_become_34 rfl ?_
        refine J_aload_n dX3_become_35 rfl ?_
        refine J_get jf_X3_15 dX3_become_36 hO29 hS29 ?_
        refine Jz_icmp_gt (tgt := 112) jEq.rf jEq.rf dX3_become_39 (by decide) (fun c39 => ?_) (fun c39 => ?_)
        · exact J_ret (r := none) dX3_become_112 ⟨rfl, rfl⟩ (⟨⟨hW, he, rfl⟩, ⟨F6n34, hAF6n34, fun j hj => hs j (by omega) hj⟩, ⟨F34n34, hAF34n34, fun j hj => hxv j (by omega)⟩, ⟨F35n34, hAF35n34, fun j hj => hyv j (by omega)⟩, ⟨F36n34, hAF36n34, fun j hj => hzv j (by omega)⟩, hfp, ⟨_, ⟨_, hO29, hF29_0⟩, (by omega)⟩, ⟨_, ⟨_, hO29, hF29_5⟩, (by omega)⟩, ⟨_, ⟨_, hO29, hS29⟩, (by omega)⟩⟩)
        · refine J_aload_n dX3_become_42 rfl ?_
          refine J_get jf_X3_30 dX3_become_43 hO29 hF29_1 ?_
          refine J_iload_n dX3_become_46 rfl ?_
          refine J_aload_n dX3_become_47 rfl ?_
          refine J_get jf_X3_30 dX3_become_48 hO_a1 hF_sb ?_
          refine J_iload_n dX3_become_51 rfl ?_
          refine J_callSN2 moX6_cell (host := "WalkGrounds") (List.mem_of_getElem? (i := 0) rfl) jw_st_X6_cell dX3_become_52 (w_X6_cell_q (d - 1) _ sb i2n34 ha_SB (WT_rngI (r := (-2147483648, 2147483647)) hW id rfl ha_SB).1 rfl (by omega)) (by omega) (Nat.zero_le _) (Nat.zero_le _) (Nat.le_of_ble_eq_true rfl) (fun r52 V52 h52 => ?_)
          obtain ⟨⟨y52, rfl, hq52⟩, hE52⟩ := h52
          have hE52 := hE52.symm
          subst hE52
          · refine J_callSN3 moX6_put (host := "WalkGrounds") (List.mem_of_getElem? (i := 1) rfl) jw_st_X6_put dX3_become_55 (w_X6_put_z (d - 1) _ s i2n34 y52 hW hAF6n34 (WT_rngI (r := (-2147483648, 2147483647)) hW id rfl hAF6n34).1 rfl rfl (by omega)) (by omega) (Nat.zero_le _) (Nat.zero_le _) (Nat.le_of_ble_eq_true rfl) (fun r55 V55 h55 => ?_)
            obtain ⟨rfl, hW, hx55, hB55, G55, hA55, hp55, ho55⟩ := h55
            obtain ⟨hN55, hv55⟩ := WT_rngI (r := (-2147483648, 2147483647)) hW id rfl hA55
            clear hN55
            have he := he.trans (hx55.sub (jsub_of rfl))
            have hfp := hfp.trans (jfp.one hB55 (List.mem_cons_of_mem _ List.mem_cons_self))
            have ha0 := ha0.mono hx55.1
            have ha1 := ha1.mono hx55.1
            have hb_s := hb_s.mono hx55.1
            have hb_xx := hb_xx.mono hx55.1
            have hb_yy := hb_yy.mono hx55.1
            have hb_zz := hb_zz.mono hx55.1
            have hb_sb := hb_sb.mono hx55.1
            have hb_xb := hb_xb.mono hx55.1
            have hb_yb := hb_yb.mono hx55.1
            have hb_zb := hb_zb.mono hx55.1
            have hO29 := hx55.2 _ _ hO29 (jnot_of rfl)
            have hK29 := hK29.mono hx55.1
            have hO_a1 := hx55.2 _ _ hO_a1 (jnot_of rfl)
            have hK_a1 := hK_a1.mono hx55.1
            have hAF34n34 := hx55.2 _ _ hAF34n34 (jnot_of rfl)
            have hAF35n34 := hx55.2 _ _ hAF35n34 (jnot_of rfl)
            have hAF36n34 := hx55.2 _ _ hAF36n34 (jnot_of rfl)
            have ha_SB := (hB55 sb hs1).trans ha_SB
            have ha_XB := hx55.2 _ _ ha_XB (jnot_of rfl)
            have ha_YB := hx55.2 _ _ ha_YB (jnot_of rfl)
            have ha_ZB := hx55.2 _ _ ha_ZB (jnot_of rfl)
            · refine J_aload_n dX3_become_58 rfl ?_
              refine J_get jf_X3_34 dX3_become_59 hO29 hF29_2 ?_
              refine J_iload_n dX3_become_62 rfl ?_
              refine J_aload_n dX3_become_63 rfl ?_
              refine J_get jf_X3_34 dX3_become_64 hO_a1 hF_xb ?_
              refine J_iload_n dX3_become_67 rfl ?_
              refine J_callSN2 moX6_cell (host := "WalkGrounds") (List.mem_of_getElem? (i := 0) rfl) jw_st_X6_cell dX3_become_68 (w_X6_cell_x (d - 1) _ xb i2n34 ha_XB (WT_rngI (r := (-2147483648, 2147483647)) hW id rfl ha_XB).1 rfl (by omega) (by omega)) (by omega) (Nat.zero_le _) (Nat.zero_le _) (Nat.le_of_ble_eq_true rfl) (fun r68 V68 h68 => ?_)
              obtain ⟨⟨y68, rfl, hf68⟩, hE68⟩ := h68
              have hE68 := hE68.symm
              subst hE68
              have hz68 : jEq y68.toInt (XB (i2n34.toInt).toNat).toInt := by rw [← hf68]; rfl
              clear hf68
              · refine J_callSN3 moX6_put (host := "WalkGrounds") (List.mem_of_getElem? (i := 1) rfl) jw_st_X6_put dX3_become_71 (w_X6_put_z (d - 1) _ xx i2n34 y68 hW hAF34n34 (WT_rngI (r := (-2147483648, 2147483647)) hW id rfl hAF34n34).1 rfl rfl (by omega)) (by omega) (Nat.zero_le _) (Nat.zero_le _) (Nat.le_of_ble_eq_true rfl) (fun r71 V71 h71 => ?_)
                obtain ⟨rfl, hW, hx71, hB71, G71, hA71, hp71, ho71⟩ := h71
                obtain ⟨hN71, hv71⟩ := WT_rngI (r := (-2147483648, 2147483647)) hW id rfl hA71
                clear hN71
                have he := he.trans (hx71.sub (jsub_of rfl))
                have hfp := hfp.trans (jfp.one hB71 (List.mem_cons_of_mem _ (List.mem_cons_of_mem _ List.mem_cons_self)))
                have ha0 := ha0.mono hx71.1
                have ha1 := ha1.mono hx71.1
                have hb_s := hb_s.mono hx71.1
                have hb_xx := hb_xx.mono hx71.1
                have hb_yy := hb_yy.mono hx71.1
                have hb_zz := hb_zz.mono hx71.1
                have hb_sb := hb_sb.mono hx71.1
                have hb_xb := hb_xb.mono hx71.1
                have hb_yb := hb_yb.mono hx71.1
                have hb_zb := hb_zb.mono hx71.1
                have hO29 := hx71.2 _ _ hO29 (jnot_of rfl)
                have hK29 := hK29.mono hx71.1
                have hO_a1 := hx71.2 _ _ hO_a1 (jnot_of rfl)
                have hK_a1 := hK_a1.mono hx71.1
                have hAF35n34 := hx71.2 _ _ hAF35n34 (jnot_of rfl)
                have hAF36n34 := hx71.2 _ _ hAF36n34 (jnot_of rfl)
                have ha_SB := hx71.2 _ _ ha_SB (jnot_of rfl)
                have ha_XB := (hB71 xb hs2).trans ha_XB
                have ha_YB := hx71.2 _ _ ha_YB (jnot_of rfl)
                have ha_ZB := hx71.2 _ _ ha_ZB (jnot_of rfl)
                have hA55 := hx71.2 _ _ hA55 (jnot_of rfl)
                · refine J_aload_n dX3_become_74 rfl ?_
                  refine J_get jf_X3_37 dX3_become_75 hO29 hF29_3 ?_
                  refine J_iload_n dX3_become_78 rfl ?_
                  refine J_aload_n dX3_become_79 rfl ?_
                  refine J_get jf_X3_37 dX3_become_80 hO_a1 hF_yb ?_
                  refine J_iload_n dX3_become_83 rfl ?_
                  refine J_callSN2 moX6_cell (host := "WalkGrounds") (List.mem_of_getElem? (i := 0) rfl) jw_st_X6_cell dX3_become_84 (w_X6_cell_x (d - 1) _ yb i2n34 ha_YB (WT_rngI (r := (-2147483648, 2147483647)) hW id rfl ha_YB).1 rfl (by omega) (by omega)) (by omega) (Nat.zero_le _) (Nat.zero_le _) (Nat.le_of_ble_eq_true rfl) (fun r84 V84 h84 => ?_)
                  obtain ⟨⟨y84, rfl, hf84⟩, hE84⟩ := h84
                  have hE84 := hE84.symm
                  subst hE84
                  have hz84 : jEq y84.toInt (YB (i2n34.toInt).toNat).toInt := by rw [← hf84]; rfl
                  clear hf84
                  · refine J_callSN3 moX6_put (host := "WalkGrounds") (List.mem_of_getElem? (i := 1) rfl) jw_st_X6_put dX3_become_87 (w_X6_put_z (d - 1) _ yy i2n34 y84 hW hAF35n34 (WT_rngI (r := (-2147483648, 2147483647)) hW id rfl hAF35n34).1 rfl rfl (by omega)) (by omega) (Nat.zero_le _) (Nat.zero_le _) (Nat.le_of_ble_eq_true rfl) (fun r87 V87 h87 => ?_)
                    obtain ⟨rfl, hW, hx87, hB87, G87, hA87, hp87, ho87⟩ := h87
                    obtain ⟨hN87, hv87⟩ := WT_rngI (r := (-2147483648, 2147483647)) hW id rfl hA87
                    clear hN87
                    have he := he.trans (hx87.sub (jsub_of rfl))
                    have hfp := hfp.trans (jfp.one hB87 (List.mem_cons_of_mem _ (List.mem_cons_of_mem _ (List.mem_cons_of_mem _ List.mem_cons_self))))
                    have ha0 := ha0.mono hx87.1
                    have ha1 := ha1.mono hx87.1
                    have hb_s := hb_s.mono hx87.1
                    have hb_xx := hb_xx.mono hx87.1
                    have hb_yy := hb_yy.mono hx87.1
                    have hb_zz := hb_zz.mono hx87.1
                    have hb_sb := hb_sb.mono hx87.1
                    have hb_xb := hb_xb.mono hx87.1
                    have hb_yb := hb_yb.mono hx87.1
                    have hb_zb := hb_zb.mono hx87.1
                    have hO29 := hx87.2 _ _ hO29 (jnot_of rfl)
                    have hK29 := hK29.mono hx87.1
                    have hO_a1 := hx87.2 _ _ hO_a1 (jnot_of rfl)
                    have hK_a1 := hK_a1.mono hx87.1
                    have hAF36n34 := hx87.2 _ _ hAF36n34 (jnot_of rfl)
                    have ha_SB := hx87.2 _ _ ha_SB (jnot_of rfl)
                    have ha_XB := hx87.2 _ _ ha_XB (jnot_of rfl)
                    have ha_YB := (hB87 yb hs3).trans ha_YB
                    have ha_ZB := hx87.2 _ _ ha_ZB (jnot_of rfl)
                    have hA55 := hx87.2 _ _ hA55 (jnot_of rfl)
                    have hA71 := hx87.2 _ _ hA71 (jnot_of rfl)
                    · refine J_aload_n dX3_become_90 rfl ?_
                      refine J_get jf_X3_40 dX3_become_91 hO29 hF29_4 ?_
                      refine J_iload_n dX3_become_94 rfl ?_
                      refine J_aload_n dX3_become_95 rfl ?_
                      refine J_get jf_X3_40 dX3_become_96 hO_a1 hF_zb ?_
                      refine J_iload_n dX3_become_99 rfl ?_
                      refine J_callSN2 moX6_cell (host := "WalkGrounds") (List.mem_of_getElem? (i := 0) rfl) jw_st_X6_cell dX3_become_100 (w_X6_cell_x (d - 1) _ zb i2n34 ha_ZB (WT_rngI (r := (-2147483648, 2147483647)) hW id rfl ha_ZB).1 rfl (by omega) (by omega)) (by omega) (Nat.zero_le _) (Nat.zero_le _) (Nat.le_of_ble_eq_true rfl) (fun r100 V100 h100 => ?_)
                      obtain ⟨⟨y100, rfl, hf100⟩, hE100⟩ := h100
                      have hE100 := hE100.symm
                      subst hE100
                      have hz100 : jEq y100.toInt (ZB (i2n34.toInt).toNat).toInt := by rw [← hf100]; rfl
                      clear hf100
                      · refine J_callSN3 moX6_put (host := "WalkGrounds") (List.mem_of_getElem? (i := 1) rfl) jw_st_X6_put dX3_become_103 (w_X6_put_z (d - 1) _ zz i2n34 y100 hW hAF36n34 (WT_rngI (r := (-2147483648, 2147483647)) hW id rfl hAF36n34).1 rfl rfl (by omega)) (by omega) (Nat.zero_le _) (Nat.zero_le _) (Nat.le_of_ble_eq_true rfl) (fun r103 V103 h103 => ?_)
                        obtain ⟨rfl, hW, hx103, hB103, G103, hA103, hp103, ho103⟩ := h103
                        obtain ⟨hN103, hv103⟩ := WT_rngI (r := (-2147483648, 2147483647)) hW id rfl hA103
                        clear hN103
                        have he := he.trans (hx103.sub (jsub_of rfl))
                        have hfp := hfp.trans (jfp.one hB103 (List.mem_cons_of_mem _ (List.mem_cons_of_mem _ (List.mem_cons_of_mem _ (List.mem_cons_of_mem _ List.mem_cons_self)))))
                        have ha0 := ha0.mono hx103.1
                        have ha1 := ha1.mono hx103.1
                        have hb_s := hb_s.mono hx103.1
                        have hb_xx := hb_xx.mono hx103.1
                        have hb_yy := hb_yy.mono hx103.1
                        have hb_zz := hb_zz.mono hx103.1
                        have hb_sb := hb_sb.mono hx103.1
                        have hb_xb := hb_xb.mono hx103.1
                        have hb_yb := hb_yb.mono hx103.1
                        have hb_zb := hb_zb.mono hx103.1
                        have hO29 := hx103.2 _ _ hO29 (jnot_of rfl)
                        have hK29 := hK29.mono hx103.1
                        have hO_a1 := hx103.2 _ _ hO_a1 (jnot_of rfl)
                        have hK_a1 := hK_a1.mono hx103.1
                        have ha_SB := hx103.2 _ _ ha_SB (jnot_of rfl)
                        have ha_XB := hx103.2 _ _ ha_XB (jnot_of rfl)
                        have ha_YB := hx103.2 _ _ ha_YB (jnot_of rfl)
                        have ha_ZB := (hB103 zb hs4).trans ha_ZB
                        have hA55 := hx103.2 _ _ hA55 (jnot_of rfl)
                        have hA71 := hx103.2 _ _ hA71 (jnot_of rfl)
                        have hA87 := hx103.2 _ _ hA87 (jnot_of rfl)
                        · refine Jz_iinc 1 dX3_become_106 rfl rfl (by decide) jEq.rf (by decide) (by omega) (by omega) (fun y106 he106 => ?_)
                          refine J_goto (tgt := 34) dX3_become_109 (by decide) ?_
                          refine J.mask [true, true, true] ?_
                          exact ih34 _ y106 G55 G71 G87 G103 hW he ha0 ha1 hb_s hb_xx hb_yy hb_zz hb_sb hb_xb hb_yb hb_zb hfp hO29 hK29 hO_a1 hK_a1 hA55 hA71 hA87 hA103 ha_SB ha_XB ha_YB ha_ZB (by (try simp only [he106.eq, true_and, and_true]) <;> omega) (fun j hj hj2 => by rw [he106.eq] at hj; by_cases h9 : (j : Int) = i2n34.toInt; (have e : j = i2n34.toInt.toNat := by omega); subst e; rw [hp55 (by omega)]; exact (hq52 (by omega)).symm; rw [ho55 j (by omega)]; exact hs j (by omega) hj2) (fun j hj => by rw [he106.eq] at hj; by_cases h9 : (j : Int) = i2n34.toInt; (have e : j = i2n34.toInt.toNat := by omega); subst e; rw [hp71 (by omega)]; exact (jI_inj.mp hz68.eq); rw [ho71 j (by omega)]; exact hxv j (by omega)) (fun j hj => by rw [he106.eq] at hj; by_cases h9 : (j : Int) = i2n34.toInt; (have e : j = i2n34.toInt.toNat := by omega); subst e; rw [hp87 (by omega)]; exact (jI_inj.mp hz84.eq); rw [ho87 j (by omega)]; exact hyv j (by omega)) (fun j hj => by rw [he106.eq] at hj; by_cases h9 : (j : Int) = i2n34.toInt; (have e : j = i2n34.toInt.toNat := by omega); subst e; rw [hp103 (by omega)]; exact (jI_inj.mp hz100.eq); rw [ho103 j (by omega)]; exact hzv j (by omega)) (by (try simp only [he106.eq, true_and, and_true]) <;> omega)
    refine J.mask [true, true, true] ?_
    exact L34 _ _ y32 S X Y Z hW he ha0 ha1 hb_s hb_xx hb_yy hb_zz hb_sb hb_xb hb_yb hb_zb hfp hO29 hK29 hO_a1 hK_a1 ha_S ha_X ha_Y ha_Z ha_SB ha_XB ha_YB ha_ZB (by (try simp only [he32.eq, true_and, and_true]) <;> omega) (fun j hj => by rw [he32.eq] at hj; omega) (fun j hj => by rw [he32.eq] at hj; omega) (fun j hj => by rw [he32.eq] at hj; omega) (fun j hj => by rw [he32.eq] at hj; omega) (Nat.lt_succ_self _)
  · exact False.elim (by omega)
set_option maxRecDepth 100000 in
set_option maxHeartbeats 8000000 in
theorem w_X3_direction_z {tS : jTS} (d : Nat) (V0 : jH) {ln : Nat} (a0 : Nat) (x1 : Int32) (s : Nat) (S : Nat → Int32) (hd : 1 ≤ d) (hW : WT V0) (ha0 : jis V0 (.inr 1) a0) (hr_s : jfR V0 a0 1 1 s) (ha_S : V0 s = some (.inl (6, ln, .inl S))) (hp0 : 0 ≤ x1.toInt) (hp1 : x1.toInt < (ln : Int)) (hp2 : (ln : Int) ≤ 120) : jTot tS mX3_direction d [.ref a0, .int x1] V0 0 0 (fun r V => (fun r _ => ∃ y : Int32, r = some (.int y) ∧ ((-2147483648) ≤ y.toInt) ∧ (y.toInt ≤ 2147483647) ∧ (y.toInt = (S x1.toInt.toNat).toInt)) r V ∧ V = V0) := by
  refine jTot.of_J [some (.ref a0), some (.int x1)] moX3_direction (Nat.le_of_ble_eq_true rfl) rfl ?_
  have hrx1 := j_rng x1
  have he : jeff [] V0 V0 := jeff.refl _ _
  obtain ⟨fs_a0, hO_a0, hK_a0⟩ := WT_obj hW id ha0
  have hF_s := hr_s.get hO_a0
  obtain ⟨w_s, hFq_s, b_s, hbq_s, hb_s⟩ := hK_a0.2 1 (.inr (some (.inl 6))) rfl
  cases hF_s.symm.trans (hFq_s.trans (congrArg some hbq_s))
  obtain ⟨hN_S, hv_S⟩ := WT_rngI (r := ((-2147483648), 2147483647)) hW id rfl ha_S
  clear hN_S
  refine J_aload_n dX3_direction_0 rfl ?_
  refine J_get jf_X3_30 dX3_direction_1 hO_a0 hF_s ?_
  refine J_iload_n dX3_direction_4 rfl ?_
  refine J_callSN2 moX6_cell (host := "WalkGrounds") (List.mem_of_getElem? (i := 0) rfl) jw_st_X6_cell dX3_direction_5 (w_X6_cell_x (d - 1) _ s x1 ha_S (WT_rngI (r := (-2147483648, 2147483647)) hW id rfl ha_S).1 rfl (by omega) (by omega)) (by omega) (Nat.zero_le _) (Nat.zero_le _) (Nat.le_of_ble_eq_true rfl) (fun r5 V5 h5 => ?_)
  obtain ⟨⟨y5, rfl, hf5⟩, hE5⟩ := h5
  have hE5 := hE5.symm
  subst hE5
  have hz5 : jEq y5.toInt (S (x1.toInt).toNat).toInt := by rw [← hf5]; rfl
  clear hf5
  · exact J_ret (r := some (.int _)) dX3_direction_8 ⟨rfl, _, rfl, rfl⟩ (⟨⟨_, rfl, (j_rng _).1, (j_rng _).2, (by (try simp only [hz5.eq, true_and, and_true]) <;> omega)⟩, rfl⟩)
set_option maxRecDepth 100000 in
set_option maxHeartbeats 8000000 in
theorem w_X6_step_out {tS : jTS} (d : Nat) (V0 : jH) (a0 : Nat) (x1 : Int32) (x2 : Int32) (k : Int32) (md : Nat) (hd : 4 ≤ d) (hW : WT V0) (ha0 : jis V0 (.inr 4) a0) (hf_k : jfI V0 a0 4 1 k) (hr_md : jfR V0 a0 4 0 md) (hp0 : ¬ (0 ≤ x1.toInt ∧ x1.toInt < k.toInt)) : jTot tS mX6_step d [.ref a0, .int x1, .int x2] V0 0 0 (fun r V => (fun r _ => ∃ y : Int32, r = some (.int y) ∧ ((-2147483648) ≤ y.toInt) ∧ (y.toInt ≤ 2147483647) ∧ (y.toInt = -2)) r V ∧ V = V0) := by
  refine jTot.of_J [some (.ref a0), some (.int x1), some (.int x2), none] moX6_step (Nat.le_of_ble_eq_true rfl) rfl ?_
  have hrx1 := j_rng x1
  have hrx2 := j_rng x2
  have he : jeff [] V0 V0 := jeff.refl _ _
  obtain ⟨fs_a0, hO_a0, hK_a0⟩ := WT_obj hW id ha0
  have hF_k := hf_k.get hO_a0
  have hrk : 0 ≤ k.toInt ∧ k.toInt ≤ 16 := jok_rngI hK_a0 rfl hF_k
  have hF_md := hr_md.get hO_a0
  obtain ⟨w_md, hFq_md, b_md, hbq_md, hb_md⟩ := hK_a0.2 0 (.inr (some (.inl 4))) rfl
  cases hF_md.symm.trans (hFq_md.trans (congrArg some hbq_md))
  refine J_aload_n dX6_step_0 rfl ?_
  refine J_iload_n dX6_step_1 rfl ?_
  refine Jw_callV1 (q9 := (RX6, TX6, 7)) moX6_rowOf jw_ml_X6_55 jw_im_X6_rowOf jw_se_X6_rowOf ha0 rfl rfl dX6_step_2 (w_X6_rowOf_out (d - 1) _ a0 x1 hO_a0 hF_k (by omega)) (by omega) (Nat.zero_le _) (Nat.zero_le _) (Nat.le_of_ble_eq_true rfl) (fun r2 V2 h2 => ?_)
  obtain ⟨rfl, hE2⟩ := h2
  have hE2 := hE2.symm
  subst hE2
  · refine J_astore_nN dX6_step_5 rfl (by decide) ?_
    refine J_aload_nN dX6_step_6 rfl ?_
    refine J_ifnullN (tgt := 21) dX6_step_7 (by decide) ?_
    refine Jz_bipush (-2) dX6_step_21 (by decide) (fun y21 he21 => ?_)
    exact J_ret (r := some (.int _)) dX6_step_23 ⟨rfl, _, rfl, rfl⟩ (⟨⟨_, rfl, (j_rng _).1, (j_rng _).2, (by (try simp only [he21.eq, true_and, and_true]) <;> omega)⟩, rfl⟩)
set_option maxRecDepth 100000 in
set_option maxHeartbeats 8000000 in
theorem w_X6_step_bad {tS : jTS} (d : Nat) (V0 : jH) (a0 : Nat) (x1 : Int32) (x2 : Int32) (k : Int32) (md : Nat) (f : Nat → Option Nat) (ro : Nat) (M : Int32) (g : Int32) (n : Int32) (s : Nat) (xx : Nat) (yy : Nat) (zz : Nat) (S : Nat → Int32) (X : Nat → Int32) (Y : Nat → Int32) (Z : Nat → Int32) (hd : 4 ≤ d) (hW : WT V0) (ha0 : jis V0 (.inr 4) a0) (hf_k : jfI V0 a0 4 1 k) (hr_md : jfR V0 a0 4 0 md) (ha_f : V0 md = some (.inl (4, 16, .inr (.inr (.inr (.inr f)))))) (hf_M : jfI V0 ro 1 0 M) (hf_g : jfI V0 ro 1 5 g) (hf_n : jfI V0 ro 1 6 n) (hr_s : jfR V0 ro 1 1 s) (hr_xx : jfR V0 ro 1 2 xx) (hr_yy : jfR V0 ro 1 3 yy) (hr_zz : jfR V0 ro 1 4 zz) (ha_S : V0 s = some (.inl (6, 60, .inl S))) (ha_X : V0 xx = some (.inl (34, 61, .inl X))) (ha_Y : V0 yy = some (.inl (35, 61, .inl Y))) (ha_Z : V0 zz = some (.inl (36, 61, .inl Z))) (hm_ro : M.toInt = 60) (hn_ro : n.toInt ≤ 60) (hfo : f x1.toInt.toNat = some ro) (hp0 : 0 ≤ x1.toInt) (hp1 : x1.toInt < k.toInt) (hp2 : 0 ≤ g.toInt) (hp3 : g.toInt ≤ 3) (hp4 : ¬ (0 ≤ x2.toInt ∧ x2.toInt < jdir g.toInt)) : jTot tS mX6_step d [.ref a0, .int x1, .int x2] V0 0 0 (fun r V => (fun r _ => ∃ y : Int32, r = some (.int y) ∧ ((-2147483648) ≤ y.toInt) ∧ (y.toInt ≤ 2147483647) ∧ (y.toInt = -2)) r V ∧ V = V0) := by
  refine jTot.of_J [some (.ref a0), some (.int x1), some (.int x2), none] moX6_step (Nat.le_of_ble_eq_true rfl) rfl ?_
  have hrx1 := j_rng x1
  have hrx2 := j_rng x2
  have he : jeff [] V0 V0 := jeff.refl _ _
  obtain ⟨fs_a0, hO_a0, hK_a0⟩ := WT_obj hW id ha0
  have hF_k := hf_k.get hO_a0
  have hrk : 0 ≤ k.toInt ∧ k.toInt ≤ 16 := jok_rngI hK_a0 rfl hF_k
  have hF_md := hr_md.get hO_a0
  obtain ⟨w_md, hFq_md, b_md, hbq_md, hb_md⟩ := hK_a0.2 0 (.inr (some (.inl 4))) rfl
  cases hF_md.symm.trans (hFq_md.trans (congrArg some hbq_md))
  have hb_ro : jis V0 (.inr 1) ro := by obtain ⟨q1, q2, q3⟩ := hf_M; exact ⟨_, q2, rfl⟩
  obtain ⟨fs_ro, hO_ro, hK_ro⟩ := WT_obj hW id hb_ro
  have hF_M := hf_M.get hO_ro
  have hrM : 0 ≤ M.toInt ∧ M.toInt ≤ 120 := jok_rngI hK_ro rfl hF_M
  have hF_g := hf_g.get hO_ro
  have hrg : (-2147483648) ≤ g.toInt ∧ g.toInt ≤ 2147483647 := jok_rngI hK_ro rfl hF_g
  have hF_n := hf_n.get hO_ro
  have hrn : 0 ≤ n.toInt ∧ n.toInt ≤ 120 := jok_rngI hK_ro rfl hF_n
  have hF_s := hr_s.get hO_ro
  have hb_s : jis V0 (.inl 6) s := ⟨_, ha_S, rfl⟩
  obtain ⟨hN_S, hv_S⟩ := WT_rngI (r := (-2147483648, 2147483647)) hW id rfl ha_S
  clear hN_S
  have hF_xx := hr_xx.get hO_ro
  have hb_xx : jis V0 (.inl 34) xx := ⟨_, ha_X, rfl⟩
  obtain ⟨hN_X, hv_X⟩ := WT_rngI (r := (-2147483648, 2147483647)) hW id rfl ha_X
  clear hN_X
  have hF_yy := hr_yy.get hO_ro
  have hb_yy : jis V0 (.inl 35) yy := ⟨_, ha_Y, rfl⟩
  obtain ⟨hN_Y, hv_Y⟩ := WT_rngI (r := (-2147483648, 2147483647)) hW id rfl ha_Y
  clear hN_Y
  have hF_zz := hr_zz.get hO_ro
  have hb_zz : jis V0 (.inl 36) zz := ⟨_, ha_Z, rfl⟩
  obtain ⟨hN_Z, hv_Z⟩ := WT_rngI (r := (-2147483648, 2147483647)) hW id rfl ha_Z
  clear hN_Z
  refine J_aload_n dX6_step_0 rfl ?_
  refine J_iload_n dX6_step_1 rfl ?_
  refine Jw_callV1 (q9 := (RX6, TX6, 7)) moX6_rowOf jw_ml_X6_55 jw_im_X6_rowOf jw_se_X6_rowOf ha0 rfl rfl dX6_step_2 (w_X6_rowOf_in (d - 1) _ a0 x1 hO_a0 hF_md hF_k ha_f (by omega) (by omega) (by omega) hfo) (by omega) (Nat.zero_le _) (Nat.zero_le _) (Nat.le_of_ble_eq_true rfl) (fun r2 V2 h2 => ?_)
  obtain ⟨rfl, hE2⟩ := h2
  have hE2 := hE2.symm
  subst hE2
  · refine J_astore_n dX6_step_5 rfl (by decide) ?_
    refine J_aload_n dX6_step_6 rfl ?_
    refine J_ifnull dX6_step_7 ?_
    refine J_aload_n dX6_step_10 rfl ?_
    refine J_get jf_X6_59 dX6_step_11 hO_ro hF_g ?_
    refine J_iload_n dX6_step_14 rfl ?_
    refine J_callS2 moX0_isDirection jw_ml_X6_62 jw_st_X0_isDirection dX6_step_15 (w_X0_isDirection_z (d - 1) _ g x2 (by omega)   (by omega) (by omega)) (by omega) (Nat.zero_le _) (Nat.zero_le _) (Nat.le_of_ble_eq_true rfl) (fun r15 V15 h15 => ?_)
    obtain ⟨⟨y15, rfl, hl15, hh15, hP15_0⟩, hE15⟩ := h15
    have hE15 := hE15.symm
    subst hE15
    refine Jz_if_ne (tgt := 24) jEq.rf dX6_step_18 (by decide) (fun c18 => ?_) (fun c18 => ?_)
    · exact False.elim (by omega)
    · refine Jz_bipush (-2) dX6_step_21 (by decide) (fun y21 he21 => ?_)
      exact J_ret (r := some (.int _)) dX6_step_23 ⟨rfl, _, rfl, rfl⟩ (⟨⟨_, rfl, (j_rng _).1, (j_rng _).2, (by (try simp only [he21.eq, true_and, and_true]) <;> omega)⟩, rfl⟩)
set_option maxRecDepth 100000 in
set_option maxHeartbeats 8000000 in
theorem w_X6_step_no {tS : jTS} (d : Nat) (V0 : jH) (a0 : Nat) (x1 : Int32) (x2 : Int32) (k : Int32) (md : Nat) (f : Nat → Option Nat) (ro : Nat) (M : Int32) (g : Int32) (n : Int32) (s : Nat) (xx : Nat) (yy : Nat) (zz : Nat) (S : Nat → Int32) (X : Nat → Int32) (Y : Nat → Int32) (Z : Nat → Int32) (hd : 4 ≤ d) (hW : WT V0) (ha0 : jis V0 (.inr 4) a0) (hf_k : jfI V0 a0 4 1 k) (hr_md : jfR V0 a0 4 0 md) (ha_f : V0 md = some (.inl (4, 16, .inr (.inr (.inr (.inr f)))))) (hf_M : jfI V0 ro 1 0 M) (hf_g : jfI V0 ro 1 5 g) (hf_n : jfI V0 ro 1 6 n) (hr_s : jfR V0 ro 1 1 s) (hr_xx : jfR V0 ro 1 2 xx) (hr_yy : jfR V0 ro 1 3 yy) (hr_zz : jfR V0 ro 1 4 zz) (ha_S : V0 s = some (.inl (6, 60, .inl S))) (ha_X : V0 xx = some (.inl (34, 61, .inl X))) (ha_Y : V0 yy = some (.inl (35, 61, .inl Y))) (ha_Z : V0 zz = some (.inl (36, 61, .inl Z))) (hm_ro : M.toInt = 60) (hn_ro : n.toInt ≤ 60) (hfo : f x1.toInt.toNat = some ro) (hp0 : 0 ≤ x1.toInt) (hp1 : x1.toInt < k.toInt) (hp2 : 0 ≤ g.toInt) (hp3 : g.toInt ≤ 3) (hp4 : 0 ≤ x2.toInt) (hp5 : x2.toInt < jdir g.toInt) (hp6 : jrv g.toInt (fun q => (S q).toInt) n.toInt.toNat X Y Z) (hp7 : jav g.toInt (jTs (fun q => (S q).toInt) n.toInt.toNat x2.toInt) n.toInt.toNat) (hp8 : ¬ jav g.toInt (jTs (fun q => (S q).toInt) n.toInt.toNat x2.toInt) (n.toInt.toNat + 1)) : jTot tS mX6_step d [.ref a0, .int x1, .int x2] V0 0 0 (fun r V => (fun r _ => ∃ y : Int32, r = some (.int y) ∧ ((-2147483648) ≤ y.toInt) ∧ (y.toInt ≤ 2147483647) ∧ (y.toInt = -3)) r V ∧ V = V0) := by
  refine jTot.of_J [some (.ref a0), some (.int x1), some (.int x2), none] moX6_step (Nat.le_of_ble_eq_true rfl) rfl ?_
  have hrx1 := j_rng x1
  have hrx2 := j_rng x2
  have he : jeff [] V0 V0 := jeff.refl _ _
  obtain ⟨fs_a0, hO_a0, hK_a0⟩ := WT_obj hW id ha0
  have hF_k := hf_k.get hO_a0
  have hrk : 0 ≤ k.toInt ∧ k.toInt ≤ 16 := jok_rngI hK_a0 rfl hF_k
  have hF_md := hr_md.get hO_a0
  obtain ⟨w_md, hFq_md, b_md, hbq_md, hb_md⟩ := hK_a0.2 0 (.inr (some (.inl 4))) rfl
  cases hF_md.symm.trans (hFq_md.trans (congrArg some hbq_md))
  have hb_ro : jis V0 (.inr 1) ro := by obtain ⟨q1, q2, q3⟩ := hf_M; exact ⟨_, q2, rfl⟩
  obtain ⟨fs_ro, hO_ro, hK_ro⟩ := WT_obj hW id hb_ro
  have hF_M := hf_M.get hO_ro
  have hrM : 0 ≤ M.toInt ∧ M.toInt ≤ 120 := jok_rngI hK_ro rfl hF_M
  have hF_g := hf_g.get hO_ro
  have hrg : (-2147483648) ≤ g.toInt ∧ g.toInt ≤ 2147483647 := jok_rngI hK_ro rfl hF_g
  have hF_n := hf_n.get hO_ro
  have hrn : 0 ≤ n.toInt ∧ n.toInt ≤ 120 := jok_rngI hK_ro rfl hF_n
  have hF_s := hr_s.get hO_ro
  have hb_s : jis V0 (.inl 6) s := ⟨_, ha_S, rfl⟩
  obtain ⟨hN_S, hv_S⟩ := WT_rngI (r := (-2147483648, 2147483647)) hW id rfl ha_S
  clear hN_S
  have hF_xx := hr_xx.get hO_ro
  have hb_xx : jis V0 (.inl 34) xx := ⟨_, ha_X, rfl⟩
  obtain ⟨hN_X, hv_X⟩ := WT_rngI (r := (-2147483648, 2147483647)) hW id rfl ha_X
  clear hN_X
  have hF_yy := hr_yy.get hO_ro
  have hb_yy : jis V0 (.inl 35) yy := ⟨_, ha_Y, rfl⟩
  obtain ⟨hN_Y, hv_Y⟩ := WT_rngI (r := (-2147483648, 2147483647)) hW id rfl ha_Y
  clear hN_Y
  have hF_zz := hr_zz.get hO_ro
  have hb_zz : jis V0 (.inl 36) zz := ⟨_, ha_Z, rfl⟩
  obtain ⟨hN_Z, hv_Z⟩ := WT_rngI (r := (-2147483648, 2147483647)) hW id rfl ha_Z
  clear hN_Z
  refine J_aload_n dX6_step_0 rfl ?_
  refine J_iload_n dX6_step_1 rfl ?_
  have hT : (jTs (fun q => (S q).toInt) n.toInt.toNat x2.toInt) n.toInt.toNat = x2.toInt := by unfold jTs; rw [if_neg (by omega)]
  have hjv : jrv g.toInt (jTs (fun q => (S q).toInt) n.toInt.toNat x2.toInt) n.toInt.toNat X Y Z := hp6.congr (fun q hq => by unfold jTs; rw [if_pos hq])
  have hbx := hjv.b n.toInt.toNat (Nat.le_refl _)
  refine Jw_callV1 (q9 := (RX6, TX6, 7)) moX6_rowOf jw_ml_X6_55 jw_im_X6_rowOf jw_se_X6_rowOf ha0 rfl rfl dX6_step_2 (w_X6_rowOf_in (d - 1) _ a0 x1 hO_a0 hF_md hF_k ha_f (by omega) (by omega) (by omega) hfo) (by omega) (Nat.zero_le _) (Nat.zero_le _) (Nat.le_of_ble_eq_true rfl) (fun r2 V2 h2 => ?_)
  obtain ⟨rfl, hE2⟩ := h2
  have hE2 := hE2.symm
  subst hE2
  · refine J_astore_n dX6_step_5 rfl (by decide) ?_
    refine J_aload_n dX6_step_6 rfl ?_
    refine J_ifnull dX6_step_7 ?_
    refine J_aload_n dX6_step_10 rfl ?_
    refine J_get jf_X6_59 dX6_step_11 hO_ro hF_g ?_
    refine J_iload_n dX6_step_14 rfl ?_
    refine J_callS2 moX0_isDirection jw_ml_X6_62 jw_st_X0_isDirection dX6_step_15 (w_X0_isDirection_z (d - 1) _ g x2 (by omega)   (by omega) (by omega)) (by omega) (Nat.zero_le _) (Nat.zero_le _) (Nat.le_of_ble_eq_true rfl) (fun r15 V15 h15 => ?_)
    obtain ⟨⟨y15, rfl, hl15, hh15, hP15_0⟩, hE15⟩ := h15
    have hE15 := hE15.symm
    subst hE15
    refine Jz_if_ne (tgt := 24) jEq.rf dX6_step_18 (by decide) (fun c18 => ?_) (fun c18 => ?_)
    · refine J_aload_n dX6_step_24 rfl ?_
      refine J_iload_n dX6_step_25 rfl ?_
      refine Jw_callV1 (q9 := (RX3, TX3, 7)) moX3_leads jw_ml_X6_66 jw_im_X3_leads jw_se_X3_leads hb_ro rfl rfl dX6_step_26 (w_X3_leads_z (d - 1) _ ro x2 M g n s xx yy zz S X Y Z (by omega) hW  hb_ro ⟨_, hO_ro, hF_M⟩ ⟨_, hO_ro, hF_g⟩ ⟨_, hO_ro, hF_n⟩ ⟨_, hO_ro, hF_s⟩ ⟨_, hO_ro, hF_xx⟩ ⟨_, hO_ro, hF_yy⟩ ⟨_, hO_ro, hF_zz⟩ ha_S ha_X ha_Y ha_Z (by omega) (by omega) (by omega) (by omega) (by omega) (by omega) (by omega) (by omega) (by omega) (by omega) (by omega) (by omega) (by omega)) (by omega) (Nat.zero_le _) (Nat.zero_le _) (Nat.le_of_ble_eq_true rfl) (fun r26 V26 h26 => ?_)
      obtain ⟨⟨y26, rfl, hl26, hh26, hI26_0, hI26_1⟩, hE26⟩ := h26
      have hE26 := hE26.symm
      subst hE26
      refine Jz_if_ne (tgt := 35) jEq.rf dX6_step_29 (by decide) (fun c29 => ?_) (fun c29 => ?_)
      · have q29_0 := hI26_0.of (by omega)
        exact False.elim (by obtain ⟨i, h1, h2⟩ := jav_not hp7 hp8; exact hI26_0.of (by omega) i (by omega) (by rw [← hT]; exact (hjv.next h1).mp h2))
      · have q29_1 := hI26_1.of (by omega)
        refine Jz_bipush (-3) dX6_step_32 (by decide) (fun y32 he32 => ?_)
        exact J_ret (r := some (.int _)) dX6_step_34 ⟨rfl, _, rfl, rfl⟩ (⟨⟨_, rfl, (j_rng _).1, (j_rng _).2, (by (try simp only [he32.eq, true_and, and_true]) <;> omega)⟩, rfl⟩)
    · exact False.elim (by omega)
set_option maxRecDepth 100000 in
set_option maxHeartbeats 8000000 in
theorem w_X6_step_full {tS : jTS} (d : Nat) (V0 : jH) (a0 : Nat) (x1 : Int32) (x2 : Int32) (k : Int32) (md : Nat) (f : Nat → Option Nat) (ro : Nat) (M : Int32) (g : Int32) (n : Int32) (s : Nat) (xx : Nat) (yy : Nat) (zz : Nat) (S : Nat → Int32) (X : Nat → Int32) (Y : Nat → Int32) (Z : Nat → Int32) (hd : 4 ≤ d) (hW : WT V0) (ha0 : jis V0 (.inr 4) a0) (hf_k : jfI V0 a0 4 1 k) (hr_md : jfR V0 a0 4 0 md) (ha_f : V0 md = some (.inl (4, 16, .inr (.inr (.inr (.inr f)))))) (hf_M : jfI V0 ro 1 0 M) (hf_g : jfI V0 ro 1 5 g) (hf_n : jfI V0 ro 1 6 n) (hr_s : jfR V0 ro 1 1 s) (hr_xx : jfR V0 ro 1 2 xx) (hr_yy : jfR V0 ro 1 3 yy) (hr_zz : jfR V0 ro 1 4 zz) (ha_S : V0 s = some (.inl (6, 60, .inl S))) (ha_X : V0 xx = some (.inl (34, 61, .inl X))) (ha_Y : V0 yy = some (.inl (35, 61, .inl Y))) (ha_Z : V0 zz = some (.inl (36, 61, .inl Z))) (hm_ro : M.toInt = 60) (hn_ro : n.toInt ≤ 60) (hfo : f x1.toInt.toNat = some ro) (hp0 : 0 ≤ x1.toInt) (hp1 : x1.toInt < k.toInt) (hp2 : 0 ≤ g.toInt) (hp3 : g.toInt ≤ 3) (hp4 : 0 ≤ x2.toInt) (hp5 : x2.toInt < jdir g.toInt) (hp6 : jrv g.toInt (fun q => (S q).toInt) n.toInt.toNat X Y Z) (hp7 : jav g.toInt (jTs (fun q => (S q).toInt) n.toInt.toNat x2.toInt) (n.toInt.toNat + 1)) (hp8 : n.toInt = 60) : jTot tS mX6_step d [.ref a0, .int x1, .int x2] V0 0 0 (fun r V => (fun r _ => ∃ y : Int32, r = some (.int y) ∧ ((-2147483648) ≤ y.toInt) ∧ (y.toInt ≤ 2147483647) ∧ (y.toInt = -4)) r V ∧ V = V0) := by
  refine jTot.of_J [some (.ref a0), some (.int x1), some (.int x2), none] moX6_step (Nat.le_of_ble_eq_true rfl) rfl ?_
  have hrx1 := j_rng x1
  have hrx2 := j_rng x2
  have he : jeff [] V0 V0 := jeff.refl _ _
  obtain ⟨fs_a0, hO_a0, hK_a0⟩ := WT_obj hW id ha0
  have hF_k := hf_k.get hO_a0
  have hrk : 0 ≤ k.toInt ∧ k.toInt ≤ 16 := jok_rngI hK_a0 rfl hF_k
  have hF_md := hr_md.get hO_a0
  obtain ⟨w_md, hFq_md, b_md, hbq_md, hb_md⟩ := hK_a0.2 0 (.inr (some (.inl 4))) rfl
  cases hF_md.symm.trans (hFq_md.trans (congrArg some hbq_md))
  have hb_ro : jis V0 (.inr 1) ro := by obtain ⟨q1, q2, q3⟩ := hf_M; exact ⟨_, q2, rfl⟩
  obtain ⟨fs_ro, hO_ro, hK_ro⟩ := WT_obj hW id hb_ro
  have hF_M := hf_M.get hO_ro
  have hrM : 0 ≤ M.toInt ∧ M.toInt ≤ 120 := jok_rngI hK_ro rfl hF_M
  have hF_g := hf_g.get hO_ro
  have hrg : (-2147483648) ≤ g.toInt ∧ g.toInt ≤ 2147483647 := jok_rngI hK_ro rfl hF_g
  have hF_n := hf_n.get hO_ro
  have hrn : 0 ≤ n.toInt ∧ n.toInt ≤ 120 := jok_rngI hK_ro rfl hF_n
  have hF_s := hr_s.get hO_ro
  have hb_s : jis V0 (.inl 6) s := ⟨_, ha_S, rfl⟩
  obtain ⟨hN_S, hv_S⟩ := WT_rngI (r := (-2147483648, 2147483647)) hW id rfl ha_S
  clear hN_S
  have hF_xx := hr_xx.get hO_ro
  have hb_xx : jis V0 (.inl 34) xx := ⟨_, ha_X, rfl⟩
  obtain ⟨hN_X, hv_X⟩ := WT_rngI (r := (-2147483648, 2147483647)) hW id rfl ha_X
  clear hN_X
  have hF_yy := hr_yy.get hO_ro
  have hb_yy : jis V0 (.inl 35) yy := ⟨_, ha_Y, rfl⟩
  obtain ⟨hN_Y, hv_Y⟩ := WT_rngI (r := (-2147483648, 2147483647)) hW id rfl ha_Y
  clear hN_Y
  have hF_zz := hr_zz.get hO_ro
  have hb_zz : jis V0 (.inl 36) zz := ⟨_, ha_Z, rfl⟩
  obtain ⟨hN_Z, hv_Z⟩ := WT_rngI (r := (-2147483648, 2147483647)) hW id rfl ha_Z
  clear hN_Z
  refine J_aload_n dX6_step_0 rfl ?_
  refine J_iload_n dX6_step_1 rfl ?_
  have hT : (jTs (fun q => (S q).toInt) n.toInt.toNat x2.toInt) n.toInt.toNat = x2.toInt := by unfold jTs; rw [if_neg (by omega)]
  have hjv : jrv g.toInt (jTs (fun q => (S q).toInt) n.toInt.toNat x2.toInt) n.toInt.toNat X Y Z := hp6.congr (fun q hq => by unfold jTs; rw [if_pos hq])
  have hbx := hjv.b n.toInt.toNat (Nat.le_refl _)
  refine Jw_callV1 (q9 := (RX6, TX6, 7)) moX6_rowOf jw_ml_X6_55 jw_im_X6_rowOf jw_se_X6_rowOf ha0 rfl rfl dX6_step_2 (w_X6_rowOf_in (d - 1) _ a0 x1 hO_a0 hF_md hF_k ha_f (by omega) (by omega) (by omega) hfo) (by omega) (Nat.zero_le _) (Nat.zero_le _) (Nat.le_of_ble_eq_true rfl) (fun r2 V2 h2 => ?_)
  obtain ⟨rfl, hE2⟩ := h2
  have hE2 := hE2.symm
  subst hE2
  · refine J_astore_n dX6_step_5 rfl (by decide) ?_
    refine J_aload_n dX6_step_6 rfl ?_
    refine J_ifnull dX6_step_7 ?_
    refine J_aload_n dX6_step_10 rfl ?_
    refine J_get jf_X6_59 dX6_step_11 hO_ro hF_g ?_
    refine J_iload_n dX6_step_14 rfl ?_
    refine J_callS2 moX0_isDirection jw_ml_X6_62 jw_st_X0_isDirection dX6_step_15 (w_X0_isDirection_z (d - 1) _ g x2 (by omega)   (by omega) (by omega)) (by omega) (Nat.zero_le _) (Nat.zero_le _) (Nat.le_of_ble_eq_true rfl) (fun r15 V15 h15 => ?_)
    obtain ⟨⟨y15, rfl, hl15, hh15, hP15_0⟩, hE15⟩ := h15
    have hE15 := hE15.symm
    subst hE15
    refine Jz_if_ne (tgt := 24) jEq.rf dX6_step_18 (by decide) (fun c18 => ?_) (fun c18 => ?_)
    · refine J_aload_n dX6_step_24 rfl ?_
      refine J_iload_n dX6_step_25 rfl ?_
      refine Jw_callV1 (q9 := (RX3, TX3, 7)) moX3_leads jw_ml_X6_66 jw_im_X3_leads jw_se_X3_leads hb_ro rfl rfl dX6_step_26 (w_X3_leads_z (d - 1) _ ro x2 M g n s xx yy zz S X Y Z (by omega) hW  hb_ro ⟨_, hO_ro, hF_M⟩ ⟨_, hO_ro, hF_g⟩ ⟨_, hO_ro, hF_n⟩ ⟨_, hO_ro, hF_s⟩ ⟨_, hO_ro, hF_xx⟩ ⟨_, hO_ro, hF_yy⟩ ⟨_, hO_ro, hF_zz⟩ ha_S ha_X ha_Y ha_Z (by omega) (by omega) (by omega) (by omega) (by omega) (by omega) (by omega) (by omega) (by omega) (by omega) (by omega) (by omega) (by omega)) (by omega) (Nat.zero_le _) (Nat.zero_le _) (Nat.le_of_ble_eq_true rfl) (fun r26 V26 h26 => ?_)
      obtain ⟨⟨y26, rfl, hl26, hh26, hI26_0, hI26_1⟩, hE26⟩ := h26
      have hE26 := hE26.symm
      subst hE26
      refine Jz_if_ne (tgt := 35) jEq.rf dX6_step_29 (by decide) (fun c29 => ?_) (fun c29 => ?_)
      · have q29_0 := hI26_0.of (by omega)
        refine J_aload_n dX6_step_35 rfl ?_
        refine J_get jf_X6_69 dX6_step_36 hO_ro hF_n ?_
        refine Jz_bipush 60 dX6_step_39 (by decide) (fun y39 he39 => ?_)
        refine Jz_icmp_lt (tgt := 47) jEq.rf he39 dX6_step_41 (by decide) (fun c41 => ?_) (fun c41 => ?_)
        · exact False.elim (by omega)
        · refine Jz_bipush (-4) dX6_step_44 (by decide) (fun y44 he44 => ?_)
          exact J_ret (r := some (.int _)) dX6_step_46 ⟨rfl, _, rfl, rfl⟩ (⟨⟨_, rfl, (j_rng _).1, (j_rng _).2, (by (try simp only [he44.eq, true_and, and_true]) <;> omega)⟩, rfl⟩)
      · have q29_1 := hI26_1.of (by omega)
        exact False.elim (by obtain ⟨j, h1, h2⟩ := hI26_1.of (by omega); exact (jav_succ.mp hp7).2 j (by omega) ((hjv.next (by omega)).mpr (by rw [hT]; exact h2)))
    · exact False.elim (by omega)
set_option maxRecDepth 100000 in
set_option maxHeartbeats 8000000 in
theorem w_X6_step_ok {tS : jTS} (d : Nat) (V0 : jH) (a0 : Nat) (x1 : Int32) (x2 : Int32) (k : Int32) (md : Nat) (f : Nat → Option Nat) (ro : Nat) (M : Int32) (g : Int32) (n : Int32) (s : Nat) (xx : Nat) (yy : Nat) (zz : Nat) (S : Nat → Int32) (X : Nat → Int32) (Y : Nat → Int32) (Z : Nat → Int32) (hd : 4 ≤ d) (hW : WT V0) (ha0 : jis V0 (.inr 4) a0) (hf_k : jfI V0 a0 4 1 k) (hr_md : jfR V0 a0 4 0 md) (ha_f : V0 md = some (.inl (4, 16, .inr (.inr (.inr (.inr f)))))) (hf_M : jfI V0 ro 1 0 M) (hf_g : jfI V0 ro 1 5 g) (hf_n : jfI V0 ro 1 6 n) (hr_s : jfR V0 ro 1 1 s) (hr_xx : jfR V0 ro 1 2 xx) (hr_yy : jfR V0 ro 1 3 yy) (hr_zz : jfR V0 ro 1 4 zz) (ha_S : V0 s = some (.inl (6, 60, .inl S))) (ha_X : V0 xx = some (.inl (34, 61, .inl X))) (ha_Y : V0 yy = some (.inl (35, 61, .inl Y))) (ha_Z : V0 zz = some (.inl (36, 61, .inl Z))) (hm_ro : M.toInt = 60) (hn_ro : n.toInt ≤ 60) (hfo : f x1.toInt.toNat = some ro) (hp0 : 0 ≤ x1.toInt) (hp1 : x1.toInt < k.toInt) (hp2 : 0 ≤ g.toInt) (hp3 : g.toInt ≤ 3) (hp4 : 0 ≤ x2.toInt) (hp5 : x2.toInt < jdir g.toInt) (hp6 : jrv g.toInt (fun q => (S q).toInt) n.toInt.toNat X Y Z) (hp7 : jav g.toInt (jTs (fun q => (S q).toInt) n.toInt.toNat x2.toInt) (n.toInt.toNat + 1)) (hp8 : n.toInt < 60) : jTot tS mX6_step d [.ref a0, .int x1, .int x2] V0 0 0 (fun r V => (jPost [.inr 1, .inl 6, .inl 34, .inl 35, .inl 36] V0 (fun r _ => ∃ y : Int32, r = some (.int y) ∧ ((-2147483648) ≤ y.toInt) ∧ (y.toInt ≤ 2147483647) ∧ (y.toInt = n.toInt + 1))) r V ∧ (∃ S2 X2 Y2 Z2 : Nat → Int32, jrw V ro s xx yy zz 60 g.toInt (n.toInt + 1) S2 X2 Y2 Z2 ∧ (∀ j : Nat, (j : Int) < n.toInt + 1 → (S2 j).toInt = (jTs (fun q => (S q).toInt) n.toInt.toNat x2.toInt) j) ∧ jrv g.toInt (jTs (fun q => (S q).toInt) n.toInt.toNat x2.toInt) (n.toInt + 1).toNat X2 Y2 Z2) ∧ jfp [ro, s, xx, yy, zz] V0 V) := by
  refine jTot.of_J [some (.ref a0), some (.int x1), some (.int x2), none] moX6_step (Nat.le_of_ble_eq_true rfl) rfl ?_
  have hrx1 := j_rng x1
  have hrx2 := j_rng x2
  have he : jeff [.inr 1, .inl 6, .inl 34, .inl 35, .inl 36] V0 V0 := jeff.refl _ _
  have hfp : jfp [ro, s, xx, yy, zz] V0 V0 := jfp.rf
  obtain ⟨fs_a0, hO_a0, hK_a0⟩ := WT_obj hW id ha0
  have hF_k := hf_k.get hO_a0
  have hrk : 0 ≤ k.toInt ∧ k.toInt ≤ 16 := jok_rngI hK_a0 rfl hF_k
  have hF_md := hr_md.get hO_a0
  obtain ⟨w_md, hFq_md, b_md, hbq_md, hb_md⟩ := hK_a0.2 0 (.inr (some (.inl 4))) rfl
  cases hF_md.symm.trans (hFq_md.trans (congrArg some hbq_md))
  have hb_ro : jis V0 (.inr 1) ro := by obtain ⟨q1, q2, q3⟩ := hf_M; exact ⟨_, q2, rfl⟩
  obtain ⟨fs_ro, hO_ro, hK_ro⟩ := WT_obj hW id hb_ro
  have hF_M := hf_M.get hO_ro
  have hrM : 0 ≤ M.toInt ∧ M.toInt ≤ 120 := jok_rngI hK_ro rfl hF_M
  have hF_g := hf_g.get hO_ro
  have hrg : (-2147483648) ≤ g.toInt ∧ g.toInt ≤ 2147483647 := jok_rngI hK_ro rfl hF_g
  have hF_n := hf_n.get hO_ro
  have hrn : 0 ≤ n.toInt ∧ n.toInt ≤ 120 := jok_rngI hK_ro rfl hF_n
  have hF_s := hr_s.get hO_ro
  have hb_s : jis V0 (.inl 6) s := ⟨_, ha_S, rfl⟩
  obtain ⟨hN_S, hv_S⟩ := WT_rngI (r := (-2147483648, 2147483647)) hW id rfl ha_S
  clear hN_S
  have hF_xx := hr_xx.get hO_ro
  have hb_xx : jis V0 (.inl 34) xx := ⟨_, ha_X, rfl⟩
  obtain ⟨hN_X, hv_X⟩ := WT_rngI (r := (-2147483648, 2147483647)) hW id rfl ha_X
  clear hN_X
  have hF_yy := hr_yy.get hO_ro
  have hb_yy : jis V0 (.inl 35) yy := ⟨_, ha_Y, rfl⟩
  obtain ⟨hN_Y, hv_Y⟩ := WT_rngI (r := (-2147483648, 2147483647)) hW id rfl ha_Y
  clear hN_Y
  have hF_zz := hr_zz.get hO_ro
  have hb_zz : jis V0 (.inl 36) zz := ⟨_, ha_Z, rfl⟩
  obtain ⟨hN_Z, hv_Z⟩ := WT_rngI (r := (-2147483648, 2147483647)) hW id rfl ha_Z
  clear hN_Z
  refine J_aload_n dX6_step_0 rfl ?_
  refine J_iload_n dX6_step_1 rfl ?_
  have hT : (jTs (fun q => (S q).toInt) n.toInt.toNat x2.toInt) n.toInt.toNat = x2.toInt := by unfold jTs; rw [if_neg (by omega)]
  have hjv : jrv g.toInt (jTs (fun q => (S q).toInt) n.toInt.toNat x2.toInt) n.toInt.toNat X Y Z := hp6.congr (fun q hq => by unfold jTs; rw [if_pos hq])
  have hbx := hjv.b n.toInt.toNat (Nat.le_refl _)
  refine Jw_callV1 (q9 := (RX6, TX6, 7)) moX6_rowOf jw_ml_X6_55 jw_im_X6_rowOf jw_se_X6_rowOf ha0 rfl rfl dX6_step_2 (w_X6_rowOf_in (d - 1) _ a0 x1 hO_a0 hF_md hF_k ha_f (by omega) (by omega) (by omega) hfo) (by omega) (Nat.zero_le _) (Nat.zero_le _) (Nat.le_of_ble_eq_true rfl) (fun r2 V2 h2 => ?_)
  obtain ⟨rfl, hE2⟩ := h2
  have hE2 := hE2.symm
  subst hE2
  · refine J_astore_n dX6_step_5 rfl (by decide) ?_
    refine J_aload_n dX6_step_6 rfl ?_
    refine J_ifnull dX6_step_7 ?_
    refine J_aload_n dX6_step_10 rfl ?_
    refine J_get jf_X6_59 dX6_step_11 hO_ro hF_g ?_
    refine J_iload_n dX6_step_14 rfl ?_
    refine J_callS2 moX0_isDirection jw_ml_X6_62 jw_st_X0_isDirection dX6_step_15 (w_X0_isDirection_z (d - 1) _ g x2 (by omega)   (by omega) (by omega)) (by omega) (Nat.zero_le _) (Nat.zero_le _) (Nat.le_of_ble_eq_true rfl) (fun r15 V15 h15 => ?_)
    obtain ⟨⟨y15, rfl, hl15, hh15, hP15_0⟩, hE15⟩ := h15
    have hE15 := hE15.symm
    subst hE15
    refine Jz_if_ne (tgt := 24) jEq.rf dX6_step_18 (by decide) (fun c18 => ?_) (fun c18 => ?_)
    · refine J_aload_n dX6_step_24 rfl ?_
      refine J_iload_n dX6_step_25 rfl ?_
      refine Jw_callV1 (q9 := (RX3, TX3, 7)) moX3_leads jw_ml_X6_66 jw_im_X3_leads jw_se_X3_leads hb_ro rfl rfl dX6_step_26 (w_X3_leads_z (d - 1) _ ro x2 M g n s xx yy zz S X Y Z (by omega) hW  hb_ro ⟨_, hO_ro, hF_M⟩ ⟨_, hO_ro, hF_g⟩ ⟨_, hO_ro, hF_n⟩ ⟨_, hO_ro, hF_s⟩ ⟨_, hO_ro, hF_xx⟩ ⟨_, hO_ro, hF_yy⟩ ⟨_, hO_ro, hF_zz⟩ ha_S ha_X ha_Y ha_Z (by omega) (by omega) (by omega) (by omega) (by omega) (by omega) (by omega) (by omega) (by omega) (by omega) (by omega) (by omega) (by omega)) (by omega) (Nat.zero_le _) (Nat.zero_le _) (Nat.le_of_ble_eq_true rfl) (fun r26 V26 h26 => ?_)
      obtain ⟨⟨y26, rfl, hl26, hh26, hI26_0, hI26_1⟩, hE26⟩ := h26
      have hE26 := hE26.symm
      subst hE26
      refine Jz_if_ne (tgt := 35) jEq.rf dX6_step_29 (by decide) (fun c29 => ?_) (fun c29 => ?_)
      · have q29_0 := hI26_0.of (by omega)
        refine J_aload_n dX6_step_35 rfl ?_
        refine J_get jf_X6_69 dX6_step_36 hO_ro hF_n ?_
        refine Jz_bipush 60 dX6_step_39 (by decide) (fun y39 he39 => ?_)
        refine Jz_icmp_lt (tgt := 47) jEq.rf he39 dX6_step_41 (by decide) (fun c41 => ?_) (fun c41 => ?_)
        · refine J_aload_n dX6_step_47 rfl ?_
          refine J_iload_n dX6_step_48 rfl ?_
          refine Jw_callV1 (q9 := (RX3, TX3, 7)) moX3_lay jw_ml_X6_72 jw_im_X3_lay jw_se_X3_lay hb_ro rfl rfl dX6_step_49 (w_X3_lay_yes (d - 1) _ ro x2 M g n s xx yy zz S X Y Z (by omega) hW  hb_ro ⟨_, hO_ro, hF_M⟩ ⟨_, hO_ro, hF_g⟩ ⟨_, hO_ro, hF_n⟩ ⟨_, hO_ro, hF_s⟩ ⟨_, hO_ro, hF_xx⟩ ⟨_, hO_ro, hF_yy⟩ ⟨_, hO_ro, hF_zz⟩ ha_S ha_X ha_Y ha_Z (by omega) (by omega) (by omega) (by omega) (by omega) (by omega) (by omega) (by omega) (by omega) (by omega) (by omega) (by omega) (by omega) (by omega) (fun j hj q => (jav_succ.mp hp7).2 j (by omega) ((hjv.next (by omega)).mpr (by rw [hT]; exact q)))) (by omega) (Nat.zero_le _) (Nat.zero_le _) (Nat.le_of_ble_eq_true rfl) (fun r49 V49 h49 => ?_)
          obtain ⟨h49, hX49_0, hX49_1, hX49_2, hX49_3, hX49_4, ⟨fv49_0, hfv49_0, hfp49_0⟩, ⟨fv49_1, hfv49_1, hfp49_1⟩, ⟨fv49_2, hfv49_2, hfp49_2⟩⟩ := h49
          obtain ⟨hW, hx49, hr49⟩ := h49
          have he := he.trans (hx49.sub (jsub_of rfl))
          have hfp := hfp.trans (hX49_4.sub (fun b hb => by simp only [List.mem_cons, List.not_mem_nil, or_false] at hb ⊢; first | (rcases hb with h9 | h9 | h9 | h9 | h9 <;> simp only [h9, true_or, or_true]) | omega))
          have ha0 := ha0.mono hx49.1
          have hb_md := hb_md.mono hx49.1
          have hb_ro := hb_ro.mono hx49.1
          have hb_s := hb_s.mono hx49.1
          have hb_xx := hb_xx.mono hx49.1
          have hb_yy := hb_yy.mono hx49.1
          have hb_zz := hb_zz.mono hx49.1
          have hO_a0 := hx49.2 _ _ hO_a0 (jnot_of rfl)
          have hK_a0 := hK_a0.mono hx49.1
          obtain ⟨fs49ro, hOfs49ro, hRfs49ro⟩ := hx49.1.keep hO_ro
          have hKfs49ro : jokO _ (jFs 1) fs49ro := hW _ _ id hOfs49ro
          have hFfs49ro_1 := hRfs49ro _ _ hF_s
          have hFfs49ro_2 := hRfs49ro _ _ hF_xx
          have hFfs49ro_3 := hRfs49ro _ _ hF_yy
          have hFfs49ro_4 := hRfs49ro _ _ hF_zz
          obtain ⟨y49, rfl, hl49, hh49, hP49_0⟩ := hr49
          have hFv49_0 := hfv49_0.get hOfs49ro
          have hzf49_0 : jEq fv49_0.toInt ((n.toInt) + 1) := hfp49_0
          clear hfp49_0
          have hFv49_1 := hfv49_1.get hOfs49ro
          have hsb49_1 : M = fv49_1 := (jI_inj.mp hfp49_1).symm
          subst hsb49_1
          have hFv49_2 := hfv49_2.get hOfs49ro
          have hsb49_2 : g = fv49_2 := (jI_inj.mp hfp49_2).symm
          subst hsb49_2
          obtain ⟨S49, hS49, hSn49, hSo49⟩ := hX49_0
          obtain ⟨X49, hXa49, hXn49, hXo49⟩ := hX49_1
          obtain ⟨Y49, hYa49, hYn49, hYo49⟩ := hX49_2
          obtain ⟨Z49, hZa49, hZn49, hZo49⟩ := hX49_3
          obtain ⟨hN_S49, hv_S49⟩ := WT_rngI (r := ((-2147483648), 2147483647)) hW id rfl hS49
          clear hN_S49
          obtain ⟨hN_X49, hv_X49⟩ := WT_rngI (r := ((-2147483648), 2147483647)) hW id rfl hXa49
          clear hN_X49
          obtain ⟨hN_Y49, hv_Y49⟩ := WT_rngI (r := ((-2147483648), 2147483647)) hW id rfl hYa49
          clear hN_Y49
          obtain ⟨hN_Z49, hv_Z49⟩ := WT_rngI (r := ((-2147483648), 2147483647)) hW id rfl hZa49
          clear hN_Z49
          refine J_pop dX6_step_52 rfl ?_
          refine J_aload_n dX6_step_53 rfl ?_
          refine J_get jf_X6_69 dX6_step_54 hOfs49ro hFv49_0 ?_
          exact J_ret (r := some (.int _)) dX6_step_57 ⟨rfl, _, rfl, rfl⟩ (⟨⟨hW, he, ⟨_, rfl, (j_rng _).1, (j_rng _).2, (by (try simp only [hzf49_0.eq, true_and, and_true]) <;> omega)⟩⟩, ⟨S49, X49, Y49, Z49, ⟨⟨_, ⟨_, hOfs49ro, hFv49_1⟩, hm_ro⟩, ⟨_, ⟨_, hOfs49ro, hFv49_2⟩, rfl⟩, ⟨_, ⟨_, hOfs49ro, hFv49_0⟩, hzf49_0.eq⟩, ⟨_, hOfs49ro, hFfs49ro_1⟩, ⟨_, hOfs49ro, hFfs49ro_2⟩, ⟨_, hOfs49ro, hFfs49ro_3⟩, ⟨_, hOfs49ro, hFfs49ro_4⟩, hS49, hXa49, hYa49, hZa49⟩, (fun j hj => by by_cases c : (j : Int) = n.toInt; (have e : j = n.toInt.toNat := by omega); subst e; rw [hSn49, hT]; rw [hSo49 j (by omega)]; unfold jTs; rw [if_pos (by omega)]), (by rw [show (n.toInt + 1).toNat = n.toInt.toNat + 1 by omega]; exact hjv.lay (by rw [hXn49, hT]) (by rw [hYn49, hT]) (by rw [hZn49, hT]) hXo49 hYo49 hZo49)⟩, hfp⟩)
        · exact False.elim (by omega)
      · have q29_1 := hI26_1.of (by omega)
        exact False.elim (by obtain ⟨j, h1, h2⟩ := hI26_1.of (by omega); exact (jav_succ.mp hp7).2 j (by omega) ((hjv.next (by omega)).mpr (by rw [hT]; exact h2)))
    · exact False.elim (by omega)
set_option maxRecDepth 100000 in
set_option maxHeartbeats 8000000 in
theorem w_X6_back_out {tS : jTS} (d : Nat) (V0 : jH) (a0 : Nat) (x1 : Int32) (x2 : Int32) (k : Int32) (md : Nat) (hd : 2 ≤ d) (hW : WT V0) (ha0 : jis V0 (.inr 4) a0) (hf_k : jfI V0 a0 4 1 k) (hr_md : jfR V0 a0 4 0 md) (hp0 : ¬ (0 ≤ x1.toInt ∧ x1.toInt < k.toInt)) : jTot tS mX6_back d [.ref a0, .int x1, .int x2] V0 0 0 (fun r V => (fun r _ => ∃ y : Int32, r = some (.int y) ∧ ((-2147483648) ≤ y.toInt) ∧ (y.toInt ≤ 2147483647) ∧ (y.toInt = -2)) r V ∧ V = V0) := by
  refine jTot.of_J [some (.ref a0), some (.int x1), some (.int x2), none] moX6_back (Nat.le_of_ble_eq_true rfl) rfl ?_
  have hrx1 := j_rng x1
  have hrx2 := j_rng x2
  have he : jeff [] V0 V0 := jeff.refl _ _
  obtain ⟨fs_a0, hO_a0, hK_a0⟩ := WT_obj hW id ha0
  have hF_k := hf_k.get hO_a0
  have hrk : 0 ≤ k.toInt ∧ k.toInt ≤ 16 := jok_rngI hK_a0 rfl hF_k
  have hF_md := hr_md.get hO_a0
  obtain ⟨w_md, hFq_md, b_md, hbq_md, hb_md⟩ := hK_a0.2 0 (.inr (some (.inl 4))) rfl
  cases hF_md.symm.trans (hFq_md.trans (congrArg some hbq_md))
  refine J_aload_n dX6_back_0 rfl ?_
  refine J_iload_n dX6_back_1 rfl ?_
  refine Jw_callV1 (q9 := (RX6, TX6, 7)) moX6_rowOf jw_ml_X6_55 jw_im_X6_rowOf jw_se_X6_rowOf ha0 rfl rfl dX6_back_2 (w_X6_rowOf_out (d - 1) _ a0 x1 hO_a0 hF_k (by omega)) (by omega) (Nat.zero_le _) (Nat.zero_le _) (Nat.le_of_ble_eq_true rfl) (fun r2 V2 h2 => ?_)
  obtain ⟨rfl, hE2⟩ := h2
  have hE2 := hE2.symm
  subst hE2
  · refine J_astore_nN dX6_back_5 rfl (by decide) ?_
    refine J_aload_nN dX6_back_6 rfl ?_
    refine J_ifnullN (tgt := 22) dX6_back_7 (by decide) ?_
    refine Jz_bipush (-2) dX6_back_22 (by decide) (fun y22 he22 => ?_)
    exact J_ret (r := some (.int _)) dX6_back_24 ⟨rfl, _, rfl, rfl⟩ (⟨⟨_, rfl, (j_rng _).1, (j_rng _).2, (by (try simp only [he22.eq, true_and, and_true]) <;> omega)⟩, rfl⟩)
set_option maxRecDepth 100000 in
set_option maxHeartbeats 8000000 in
theorem w_X6_back_bad {tS : jTS} (d : Nat) (V0 : jH) (a0 : Nat) (x1 : Int32) (x2 : Int32) (k : Int32) (md : Nat) (f : Nat → Option Nat) (ro : Nat) (M : Int32) (g : Int32) (n : Int32) (s : Nat) (xx : Nat) (yy : Nat) (zz : Nat) (S : Nat → Int32) (X : Nat → Int32) (Y : Nat → Int32) (Z : Nat → Int32) (hd : 2 ≤ d) (hW : WT V0) (ha0 : jis V0 (.inr 4) a0) (hf_k : jfI V0 a0 4 1 k) (hr_md : jfR V0 a0 4 0 md) (ha_f : V0 md = some (.inl (4, 16, .inr (.inr (.inr (.inr f)))))) (hf_M : jfI V0 ro 1 0 M) (hf_g : jfI V0 ro 1 5 g) (hf_n : jfI V0 ro 1 6 n) (hr_s : jfR V0 ro 1 1 s) (hr_xx : jfR V0 ro 1 2 xx) (hr_yy : jfR V0 ro 1 3 yy) (hr_zz : jfR V0 ro 1 4 zz) (ha_S : V0 s = some (.inl (6, 60, .inl S))) (ha_X : V0 xx = some (.inl (34, 61, .inl X))) (ha_Y : V0 yy = some (.inl (35, 61, .inl Y))) (ha_Z : V0 zz = some (.inl (36, 61, .inl Z))) (hm_ro : M.toInt = 60) (hn_ro : n.toInt ≤ 60) (hfo : f x1.toInt.toNat = some ro) (hp0 : 0 ≤ x1.toInt) (hp1 : x1.toInt < k.toInt) (hp2 : ¬ (0 ≤ x2.toInt ∧ x2.toInt ≤ n.toInt)) : jTot tS mX6_back d [.ref a0, .int x1, .int x2] V0 0 0 (fun r V => (fun r _ => ∃ y : Int32, r = some (.int y) ∧ ((-2147483648) ≤ y.toInt) ∧ (y.toInt ≤ 2147483647) ∧ (y.toInt = -2)) r V ∧ V = V0) := by
  refine jTot.of_J [some (.ref a0), some (.int x1), some (.int x2), none] moX6_back (Nat.le_of_ble_eq_true rfl) rfl ?_
  have hrx1 := j_rng x1
  have hrx2 := j_rng x2
  have he : jeff [] V0 V0 := jeff.refl _ _
  obtain ⟨fs_a0, hO_a0, hK_a0⟩ := WT_obj hW id ha0
  have hF_k := hf_k.get hO_a0
  have hrk : 0 ≤ k.toInt ∧ k.toInt ≤ 16 := jok_rngI hK_a0 rfl hF_k
  have hF_md := hr_md.get hO_a0
  obtain ⟨w_md, hFq_md, b_md, hbq_md, hb_md⟩ := hK_a0.2 0 (.inr (some (.inl 4))) rfl
  cases hF_md.symm.trans (hFq_md.trans (congrArg some hbq_md))
  have hb_ro : jis V0 (.inr 1) ro := by obtain ⟨q1, q2, q3⟩ := hf_M; exact ⟨_, q2, rfl⟩
  obtain ⟨fs_ro, hO_ro, hK_ro⟩ := WT_obj hW id hb_ro
  have hF_M := hf_M.get hO_ro
  have hrM : 0 ≤ M.toInt ∧ M.toInt ≤ 120 := jok_rngI hK_ro rfl hF_M
  have hF_g := hf_g.get hO_ro
  have hrg : (-2147483648) ≤ g.toInt ∧ g.toInt ≤ 2147483647 := jok_rngI hK_ro rfl hF_g
  have hF_n := hf_n.get hO_ro
  have hrn : 0 ≤ n.toInt ∧ n.toInt ≤ 120 := jok_rngI hK_ro rfl hF_n
  have hF_s := hr_s.get hO_ro
  have hb_s : jis V0 (.inl 6) s := ⟨_, ha_S, rfl⟩
  obtain ⟨hN_S, hv_S⟩ := WT_rngI (r := (-2147483648, 2147483647)) hW id rfl ha_S
  clear hN_S
  have hF_xx := hr_xx.get hO_ro
  have hb_xx : jis V0 (.inl 34) xx := ⟨_, ha_X, rfl⟩
  obtain ⟨hN_X, hv_X⟩ := WT_rngI (r := (-2147483648, 2147483647)) hW id rfl ha_X
  clear hN_X
  have hF_yy := hr_yy.get hO_ro
  have hb_yy : jis V0 (.inl 35) yy := ⟨_, ha_Y, rfl⟩
  obtain ⟨hN_Y, hv_Y⟩ := WT_rngI (r := (-2147483648, 2147483647)) hW id rfl ha_Y
  clear hN_Y
  have hF_zz := hr_zz.get hO_ro
  have hb_zz : jis V0 (.inl 36) zz := ⟨_, ha_Z, rfl⟩
  obtain ⟨hN_Z, hv_Z⟩ := WT_rngI (r := (-2147483648, 2147483647)) hW id rfl ha_Z
  clear hN_Z
  refine J_aload_n dX6_back_0 rfl ?_
  refine J_iload_n dX6_back_1 rfl ?_
  refine Jw_callV1 (q9 := (RX6, TX6, 7)) moX6_rowOf jw_ml_X6_55 jw_im_X6_rowOf jw_se_X6_rowOf ha0 rfl rfl dX6_back_2 (w_X6_rowOf_in (d - 1) _ a0 x1 hO_a0 hF_md hF_k ha_f (by omega) (by omega) (by omega) hfo) (by omega) (Nat.zero_le _) (Nat.zero_le _) (Nat.le_of_ble_eq_true rfl) (fun r2 V2 h2 => ?_)
  obtain ⟨rfl, hE2⟩ := h2
  have hE2 := hE2.symm
  subst hE2
  · refine J_astore_n dX6_back_5 rfl (by decide) ?_
    refine J_aload_n dX6_back_6 rfl ?_
    refine J_ifnull dX6_back_7 ?_
    refine J_iload_n dX6_back_10 rfl ?_
    refine Jz_if_lt (tgt := 22) jEq.rf dX6_back_11 (by decide) (fun c11 => ?_) (fun c11 => ?_)
    · refine Jz_bipush (-2) dX6_back_22 (by decide) (fun y22 he22 => ?_)
      exact J_ret (r := some (.int _)) dX6_back_24 ⟨rfl, _, rfl, rfl⟩ (⟨⟨_, rfl, (j_rng _).1, (j_rng _).2, (by (try simp only [he22.eq, true_and, and_true]) <;> omega)⟩, rfl⟩)
    · refine J_iload_n dX6_back_14 rfl ?_
      refine J_aload_n dX6_back_15 rfl ?_
      refine J_get jf_X6_69 dX6_back_16 hO_ro hF_n ?_
      refine Jz_icmp_le (tgt := 25) jEq.rf jEq.rf dX6_back_19 (by decide) (fun c19 => ?_) (fun c19 => ?_)
      · exact False.elim (by omega)
      · refine Jz_bipush (-2) dX6_back_22 (by decide) (fun y22 he22 => ?_)
        exact J_ret (r := some (.int _)) dX6_back_24 ⟨rfl, _, rfl, rfl⟩ (⟨⟨_, rfl, (j_rng _).1, (j_rng _).2, (by (try simp only [he22.eq, true_and, and_true]) <;> omega)⟩, rfl⟩)
set_option maxRecDepth 100000 in
set_option maxHeartbeats 8000000 in
theorem w_X6_back_ok {tS : jTS} (d : Nat) (V0 : jH) (a0 : Nat) (x1 : Int32) (x2 : Int32) (k : Int32) (md : Nat) (f : Nat → Option Nat) (ro : Nat) (M : Int32) (g : Int32) (n : Int32) (s : Nat) (xx : Nat) (yy : Nat) (zz : Nat) (S : Nat → Int32) (X : Nat → Int32) (Y : Nat → Int32) (Z : Nat → Int32) (hd : 2 ≤ d) (hW : WT V0) (ha0 : jis V0 (.inr 4) a0) (hf_k : jfI V0 a0 4 1 k) (hr_md : jfR V0 a0 4 0 md) (ha_f : V0 md = some (.inl (4, 16, .inr (.inr (.inr (.inr f)))))) (hf_M : jfI V0 ro 1 0 M) (hf_g : jfI V0 ro 1 5 g) (hf_n : jfI V0 ro 1 6 n) (hr_s : jfR V0 ro 1 1 s) (hr_xx : jfR V0 ro 1 2 xx) (hr_yy : jfR V0 ro 1 3 yy) (hr_zz : jfR V0 ro 1 4 zz) (ha_S : V0 s = some (.inl (6, 60, .inl S))) (ha_X : V0 xx = some (.inl (34, 61, .inl X))) (ha_Y : V0 yy = some (.inl (35, 61, .inl Y))) (ha_Z : V0 zz = some (.inl (36, 61, .inl Z))) (hm_ro : M.toInt = 60) (hn_ro : n.toInt ≤ 60) (hfo : f x1.toInt.toNat = some ro) (hp0 : 0 ≤ x1.toInt) (hp1 : x1.toInt < k.toInt) (hp2 : 0 ≤ x2.toInt) (hp3 : x2.toInt ≤ n.toInt) : jTot tS mX6_back d [.ref a0, .int x1, .int x2] V0 0 0 (fun r V => (jPost [.inr 1] V0 (fun r _ => ∃ y : Int32, r = some (.int y) ∧ ((-2147483648) ≤ y.toInt) ∧ (y.toInt ≤ 2147483647) ∧ (y.toInt = n.toInt - x2.toInt))) r V ∧ jrw V ro s xx yy zz 60 g.toInt (n.toInt - x2.toInt) S X Y Z ∧ jfp [ro] V0 V) := by
  refine jTot.of_J [some (.ref a0), some (.int x1), some (.int x2), none] moX6_back (Nat.le_of_ble_eq_true rfl) rfl ?_
  have hrx1 := j_rng x1
  have hrx2 := j_rng x2
  have he : jeff [.inr 1] V0 V0 := jeff.refl _ _
  have hfp : jfp [ro] V0 V0 := jfp.rf
  obtain ⟨fs_a0, hO_a0, hK_a0⟩ := WT_obj hW id ha0
  have hF_k := hf_k.get hO_a0
  have hrk : 0 ≤ k.toInt ∧ k.toInt ≤ 16 := jok_rngI hK_a0 rfl hF_k
  have hF_md := hr_md.get hO_a0
  obtain ⟨w_md, hFq_md, b_md, hbq_md, hb_md⟩ := hK_a0.2 0 (.inr (some (.inl 4))) rfl
  cases hF_md.symm.trans (hFq_md.trans (congrArg some hbq_md))
  have hb_ro : jis V0 (.inr 1) ro := by obtain ⟨q1, q2, q3⟩ := hf_M; exact ⟨_, q2, rfl⟩
  obtain ⟨fs_ro, hO_ro, hK_ro⟩ := WT_obj hW id hb_ro
  have hF_M := hf_M.get hO_ro
  have hrM : 0 ≤ M.toInt ∧ M.toInt ≤ 120 := jok_rngI hK_ro rfl hF_M
  have hF_g := hf_g.get hO_ro
  have hrg : (-2147483648) ≤ g.toInt ∧ g.toInt ≤ 2147483647 := jok_rngI hK_ro rfl hF_g
  have hF_n := hf_n.get hO_ro
  have hrn : 0 ≤ n.toInt ∧ n.toInt ≤ 120 := jok_rngI hK_ro rfl hF_n
  have hF_s := hr_s.get hO_ro
  have hb_s : jis V0 (.inl 6) s := ⟨_, ha_S, rfl⟩
  obtain ⟨hN_S, hv_S⟩ := WT_rngI (r := (-2147483648, 2147483647)) hW id rfl ha_S
  clear hN_S
  have hF_xx := hr_xx.get hO_ro
  have hb_xx : jis V0 (.inl 34) xx := ⟨_, ha_X, rfl⟩
  obtain ⟨hN_X, hv_X⟩ := WT_rngI (r := (-2147483648, 2147483647)) hW id rfl ha_X
  clear hN_X
  have hF_yy := hr_yy.get hO_ro
  have hb_yy : jis V0 (.inl 35) yy := ⟨_, ha_Y, rfl⟩
  obtain ⟨hN_Y, hv_Y⟩ := WT_rngI (r := (-2147483648, 2147483647)) hW id rfl ha_Y
  clear hN_Y
  have hF_zz := hr_zz.get hO_ro
  have hb_zz : jis V0 (.inl 36) zz := ⟨_, ha_Z, rfl⟩
  obtain ⟨hN_Z, hv_Z⟩ := WT_rngI (r := (-2147483648, 2147483647)) hW id rfl ha_Z
  clear hN_Z
  refine J_aload_n dX6_back_0 rfl ?_
  refine J_iload_n dX6_back_1 rfl ?_
  refine Jw_callV1 (q9 := (RX6, TX6, 7)) moX6_rowOf jw_ml_X6_55 jw_im_X6_rowOf jw_se_X6_rowOf ha0 rfl rfl dX6_back_2 (w_X6_rowOf_in (d - 1) _ a0 x1 hO_a0 hF_md hF_k ha_f (by omega) (by omega) (by omega) hfo) (by omega) (Nat.zero_le _) (Nat.zero_le _) (Nat.le_of_ble_eq_true rfl) (fun r2 V2 h2 => ?_)
  obtain ⟨rfl, hE2⟩ := h2
  have hE2 := hE2.symm
  subst hE2
  · refine J_astore_n dX6_back_5 rfl (by decide) ?_
    refine J_aload_n dX6_back_6 rfl ?_
    refine J_ifnull dX6_back_7 ?_
    refine J_iload_n dX6_back_10 rfl ?_
    refine Jz_if_lt (tgt := 22) jEq.rf dX6_back_11 (by decide) (fun c11 => ?_) (fun c11 => ?_)
    · exact False.elim (by omega)
    · refine J_iload_n dX6_back_14 rfl ?_
      refine J_aload_n dX6_back_15 rfl ?_
      refine J_get jf_X6_69 dX6_back_16 hO_ro hF_n ?_
      refine Jz_icmp_le (tgt := 25) jEq.rf jEq.rf dX6_back_19 (by decide) (fun c19 => ?_) (fun c19 => ?_)
      · refine J_aload_n dX6_back_25 rfl ?_
        refine J_iload_n dX6_back_26 rfl ?_
        refine Jw_callV1 (q9 := (RX3, TX3, 7)) moX3_drop jw_ml_X6_75 jw_im_X3_drop jw_se_X3_drop hb_ro rfl rfl dX6_back_27 (w_X3_drop_z (d - 1) _ ro x2 M g n (by omega) hW  hb_ro ⟨_, hO_ro, hF_M⟩ ⟨_, hO_ro, hF_g⟩ ⟨_, hO_ro, hF_n⟩ (by omega) (by omega)) (by omega) (Nat.zero_le _) (Nat.zero_le _) (Nat.le_of_ble_eq_true rfl) (fun r27 V27 h27 => ?_)
        obtain ⟨h27, hX27_0, ⟨fv27_0, hfv27_0, hfp27_0⟩, ⟨fv27_1, hfv27_1, hfp27_1⟩, ⟨fv27_2, hfv27_2, hfp27_2⟩⟩ := h27
        obtain ⟨hW, hx27, hr27⟩ := h27
        have he := he.trans (hx27.sub (jsub_of rfl))
        have hfp := hfp.trans (hX27_0.sub (fun b hb => by simp only [List.mem_cons, List.not_mem_nil, or_false] at hb ⊢; first | (rcases hb with h9 <;> simp only [h9, true_or, or_true]) | omega))
        have ha0 := ha0.mono hx27.1
        have hb_md := hb_md.mono hx27.1
        have hb_ro := hb_ro.mono hx27.1
        have hb_s := hb_s.mono hx27.1
        have hb_xx := hb_xx.mono hx27.1
        have hb_yy := hb_yy.mono hx27.1
        have hb_zz := hb_zz.mono hx27.1
        have hO_a0 := hx27.2 _ _ hO_a0 (jnot_of rfl)
        have hK_a0 := hK_a0.mono hx27.1
        obtain ⟨fs27ro, hOfs27ro, hRfs27ro⟩ := hx27.1.keep hO_ro
        have hKfs27ro : jokO _ (jFs 1) fs27ro := hW _ _ id hOfs27ro
        have hFfs27ro_1 := hRfs27ro _ _ hF_s
        have hFfs27ro_2 := hRfs27ro _ _ hF_xx
        have hFfs27ro_3 := hRfs27ro _ _ hF_yy
        have hFfs27ro_4 := hRfs27ro _ _ hF_zz
        have ha_S := hx27.2 _ _ ha_S (jnot_of rfl)
        have ha_X := hx27.2 _ _ ha_X (jnot_of rfl)
        have ha_Y := hx27.2 _ _ ha_Y (jnot_of rfl)
        have ha_Z := hx27.2 _ _ ha_Z (jnot_of rfl)
        cases hr27
        have hFv27_0 := hfv27_0.get hOfs27ro
        have hsb27_0 : M = fv27_0 := (jI_inj.mp hfp27_0).symm
        subst hsb27_0
        have hFv27_1 := hfv27_1.get hOfs27ro
        have hsb27_1 : g = fv27_1 := (jI_inj.mp hfp27_1).symm
        subst hsb27_1
        have hFv27_2 := hfv27_2.get hOfs27ro
        have hzf27_2 : jEq fv27_2.toInt ((n.toInt) - (x2.toInt)) := hfp27_2
        clear hfp27_2
        refine J_aload_n dX6_back_30 rfl ?_
        refine J_get jf_X6_69 dX6_back_31 hOfs27ro hFv27_2 ?_
        exact J_ret (r := some (.int _)) dX6_back_34 ⟨rfl, _, rfl, rfl⟩ (⟨⟨hW, he, ⟨_, rfl, (j_rng _).1, (j_rng _).2, (by (try simp only [hzf27_2.eq, true_and, and_true]) <;> omega)⟩⟩, ⟨⟨_, ⟨_, hOfs27ro, hFv27_0⟩, hm_ro⟩, ⟨_, ⟨_, hOfs27ro, hFv27_1⟩, rfl⟩, ⟨_, ⟨_, hOfs27ro, hFv27_2⟩, hzf27_2.eq⟩, ⟨_, hOfs27ro, hFfs27ro_1⟩, ⟨_, hOfs27ro, hFfs27ro_2⟩, ⟨_, hOfs27ro, hFfs27ro_3⟩, ⟨_, hOfs27ro, hFfs27ro_4⟩, ha_S, ha_X, ha_Y, ha_Z⟩, hfp⟩)
      · exact False.elim (by omega)
set_option maxRecDepth 100000 in
set_option maxHeartbeats 8000000 in
theorem w_X6_pivot_out {tS : jTS} (d : Nat) (V0 : jH) (a0 : Nat) (x1 : Int32) (x2 : Int32) (x3 : Int32) (k : Int32) (md : Nat) (hd : 4 ≤ d) (hW : WT V0) (ha0 : jis V0 (.inr 4) a0) (hf_k : jfI V0 a0 4 1 k) (hr_md : jfR V0 a0 4 0 md) (hp0 : ¬ (0 ≤ x1.toInt ∧ x1.toInt < k.toInt)) : jTot tS mX6_pivot d [.ref a0, .int x1, .int x2, .int x3] V0 0 0 (fun r V => (fun r _ => ∃ y : Int32, r = some (.int y) ∧ ((-2147483648) ≤ y.toInt) ∧ (y.toInt ≤ 2147483647) ∧ (y.toInt = -2)) r V ∧ V = V0) := by
  refine jTot.of_J [some (.ref a0), some (.int x1), some (.int x2), some (.int x3), none, none, none] moX6_pivot (Nat.le_of_ble_eq_true rfl) rfl ?_
  have hrx1 := j_rng x1
  have hrx2 := j_rng x2
  have hrx3 := j_rng x3
  have he : jeff [] V0 V0 := jeff.refl _ _
  obtain ⟨fs_a0, hO_a0, hK_a0⟩ := WT_obj hW id ha0
  have hF_k := hf_k.get hO_a0
  have hrk : 0 ≤ k.toInt ∧ k.toInt ≤ 16 := jok_rngI hK_a0 rfl hF_k
  have hF_md := hr_md.get hO_a0
  obtain ⟨w_md, hFq_md, b_md, hbq_md, hb_md⟩ := hK_a0.2 0 (.inr (some (.inl 4))) rfl
  cases hF_md.symm.trans (hFq_md.trans (congrArg some hbq_md))
  refine J_aload_n dX6_pivot_0 rfl ?_
  refine J_iload_n dX6_pivot_1 rfl ?_
  refine Jw_callV1 (q9 := (RX6, TX6, 7)) moX6_rowOf jw_ml_X6_55 jw_im_X6_rowOf jw_se_X6_rowOf ha0 rfl rfl dX6_pivot_2 (w_X6_rowOf_out (d - 1) _ a0 x1 hO_a0 hF_k (by omega)) (by omega) (Nat.zero_le _) (Nat.zero_le _) (Nat.le_of_ble_eq_true rfl) (fun r2 V2 h2 => ?_)
  obtain ⟨rfl, hE2⟩ := h2
  have hE2 := hE2.symm
  subst hE2
  · refine J_astoreN dX6_pivot_5 rfl (by decide) ?_
    refine J_aloadN dX6_pivot_7 rfl ?_
    refine J_ifnullN (tgt := 37) dX6_pivot_9 (by decide) ?_
    refine Jz_bipush (-2) dX6_pivot_37 (by decide) (fun y37 he37 => ?_)
    exact J_ret (r := some (.int _)) dX6_pivot_39 ⟨rfl, _, rfl, rfl⟩ (⟨⟨_, rfl, (j_rng _).1, (j_rng _).2, (by (try simp only [he37.eq, true_and, and_true]) <;> omega)⟩, rfl⟩)
set_option maxRecDepth 100000 in
set_option maxHeartbeats 8000000 in
theorem w_X6_pivot_bad {tS : jTS} (d : Nat) (V0 : jH) (a0 : Nat) (x1 : Int32) (x2 : Int32) (x3 : Int32) (k : Int32) (md : Nat) (f : Nat → Option Nat) (ro : Nat) (M : Int32) (g : Int32) (n : Int32) (s : Nat) (xx : Nat) (yy : Nat) (zz : Nat) (S : Nat → Int32) (X : Nat → Int32) (Y : Nat → Int32) (Z : Nat → Int32) (hd : 4 ≤ d) (hW : WT V0) (ha0 : jis V0 (.inr 4) a0) (hf_k : jfI V0 a0 4 1 k) (hr_md : jfR V0 a0 4 0 md) (ha_f : V0 md = some (.inl (4, 16, .inr (.inr (.inr (.inr f)))))) (hf_M : jfI V0 ro 1 0 M) (hf_g : jfI V0 ro 1 5 g) (hf_n : jfI V0 ro 1 6 n) (hr_s : jfR V0 ro 1 1 s) (hr_xx : jfR V0 ro 1 2 xx) (hr_yy : jfR V0 ro 1 3 yy) (hr_zz : jfR V0 ro 1 4 zz) (ha_S : V0 s = some (.inl (6, 60, .inl S))) (ha_X : V0 xx = some (.inl (34, 61, .inl X))) (ha_Y : V0 yy = some (.inl (35, 61, .inl Y))) (ha_Z : V0 zz = some (.inl (36, 61, .inl Z))) (hm_ro : M.toInt = 60) (hn_ro : n.toInt ≤ 60) (hfo : f x1.toInt.toNat = some ro) (hp0 : 0 ≤ x1.toInt) (hp1 : x1.toInt < k.toInt) (hp2 : 0 ≤ g.toInt) (hp3 : g.toInt ≤ 3) (hp4 : ¬ (0 ≤ x2.toInt ∧ x2.toInt ≤ n.toInt ∧ 0 ≤ x3.toInt ∧ x3.toInt < jtur g.toInt)) : jTot tS mX6_pivot d [.ref a0, .int x1, .int x2, .int x3] V0 0 0 (fun r V => (fun r _ => ∃ y : Int32, r = some (.int y) ∧ ((-2147483648) ≤ y.toInt) ∧ (y.toInt ≤ 2147483647) ∧ (y.toInt = -2)) r V ∧ V = V0) := by
  refine jTot.of_J [some (.ref a0), some (.int x1), some (.int x2), some (.int x3), none, none, none] moX6_pivot (Nat.le_of_ble_eq_true rfl) rfl ?_
  have hrx1 := j_rng x1
  have hrx2 := j_rng x2
  have hrx3 := j_rng x3
  have he : jeff [] V0 V0 := jeff.refl _ _
  obtain ⟨fs_a0, hO_a0, hK_a0⟩ := WT_obj hW id ha0
  have hF_k := hf_k.get hO_a0
  have hrk : 0 ≤ k.toInt ∧ k.toInt ≤ 16 := jok_rngI hK_a0 rfl hF_k
  have hF_md := hr_md.get hO_a0
  obtain ⟨w_md, hFq_md, b_md, hbq_md, hb_md⟩ := hK_a0.2 0 (.inr (some (.inl 4))) rfl
  cases hF_md.symm.trans (hFq_md.trans (congrArg some hbq_md))
  have hb_ro : jis V0 (.inr 1) ro := by obtain ⟨q1, q2, q3⟩ := hf_M; exact ⟨_, q2, rfl⟩
  obtain ⟨fs_ro, hO_ro, hK_ro⟩ := WT_obj hW id hb_ro
  have hF_M := hf_M.get hO_ro
  have hrM : 0 ≤ M.toInt ∧ M.toInt ≤ 120 := jok_rngI hK_ro rfl hF_M
  have hF_g := hf_g.get hO_ro
  have hrg : (-2147483648) ≤ g.toInt ∧ g.toInt ≤ 2147483647 := jok_rngI hK_ro rfl hF_g
  have hF_n := hf_n.get hO_ro
  have hrn : 0 ≤ n.toInt ∧ n.toInt ≤ 120 := jok_rngI hK_ro rfl hF_n
  have hF_s := hr_s.get hO_ro
  have hb_s : jis V0 (.inl 6) s := ⟨_, ha_S, rfl⟩
  obtain ⟨hN_S, hv_S⟩ := WT_rngI (r := (-2147483648, 2147483647)) hW id rfl ha_S
  clear hN_S
  have hF_xx := hr_xx.get hO_ro
  have hb_xx : jis V0 (.inl 34) xx := ⟨_, ha_X, rfl⟩
  obtain ⟨hN_X, hv_X⟩ := WT_rngI (r := (-2147483648, 2147483647)) hW id rfl ha_X
  clear hN_X
  have hF_yy := hr_yy.get hO_ro
  have hb_yy : jis V0 (.inl 35) yy := ⟨_, ha_Y, rfl⟩
  obtain ⟨hN_Y, hv_Y⟩ := WT_rngI (r := (-2147483648, 2147483647)) hW id rfl ha_Y
  clear hN_Y
  have hF_zz := hr_zz.get hO_ro
  have hb_zz : jis V0 (.inl 36) zz := ⟨_, ha_Z, rfl⟩
  obtain ⟨hN_Z, hv_Z⟩ := WT_rngI (r := (-2147483648, 2147483647)) hW id rfl ha_Z
  clear hN_Z
  refine J_aload_n dX6_pivot_0 rfl ?_
  refine J_iload_n dX6_pivot_1 rfl ?_
  refine Jw_callV1 (q9 := (RX6, TX6, 7)) moX6_rowOf jw_ml_X6_55 jw_im_X6_rowOf jw_se_X6_rowOf ha0 rfl rfl dX6_pivot_2 (w_X6_rowOf_in (d - 1) _ a0 x1 hO_a0 hF_md hF_k ha_f (by omega) (by omega) (by omega) hfo) (by omega) (Nat.zero_le _) (Nat.zero_le _) (Nat.le_of_ble_eq_true rfl) (fun r2 V2 h2 => ?_)
  obtain ⟨rfl, hE2⟩ := h2
  have hE2 := hE2.symm
  subst hE2
  · refine J_astore dX6_pivot_5 rfl (by decide) ?_
    refine J_aload dX6_pivot_7 rfl ?_
    refine J_ifnull dX6_pivot_9 ?_
    refine J_iload_n dX6_pivot_12 rfl ?_
    refine Jz_if_lt (tgt := 37) jEq.rf dX6_pivot_13 (by decide) (fun c13 => ?_) (fun c13 => ?_)
    · refine Jz_bipush (-2) dX6_pivot_37 (by decide) (fun y37 he37 => ?_)
      exact J_ret (r := some (.int _)) dX6_pivot_39 ⟨rfl, _, rfl, rfl⟩ (⟨⟨_, rfl, (j_rng _).1, (j_rng _).2, (by (try simp only [he37.eq, true_and, and_true]) <;> omega)⟩, rfl⟩)
    · refine J_iload_n dX6_pivot_16 rfl ?_
      refine J_aload dX6_pivot_17 rfl ?_
      refine J_get jf_X6_69 dX6_pivot_19 hO_ro hF_n ?_
      refine Jz_icmp_gt (tgt := 37) jEq.rf jEq.rf dX6_pivot_22 (by decide) (fun c22 => ?_) (fun c22 => ?_)
      · refine Jz_bipush (-2) dX6_pivot_37 (by decide) (fun y37 he37 => ?_)
        exact J_ret (r := some (.int _)) dX6_pivot_39 ⟨rfl, _, rfl, rfl⟩ (⟨⟨_, rfl, (j_rng _).1, (j_rng _).2, (by (try simp only [he37.eq, true_and, and_true]) <;> omega)⟩, rfl⟩)
      · refine J_aload dX6_pivot_25 rfl ?_
        refine J_get jf_X6_59 dX6_pivot_27 hO_ro hF_g ?_
        refine J_iload_n dX6_pivot_30 rfl ?_
        refine J_callS2 moX0_isTurn jw_ml_X6_78 jw_st_X0_isTurn dX6_pivot_31 (w_X0_isTurn_z (d - 1) _ g x3 (by omega)   (by omega) (by omega)) (by omega) (Nat.zero_le _) (Nat.zero_le _) (Nat.le_of_ble_eq_true rfl) (fun r31 V31 h31 => ?_)
        obtain ⟨⟨y31, rfl, hl31, hh31, hP31_0⟩, hE31⟩ := h31
        have hE31 := hE31.symm
        subst hE31
        refine Jz_if_ne (tgt := 40) jEq.rf dX6_pivot_34 (by decide) (fun c34 => ?_) (fun c34 => ?_)
        · exact False.elim (by omega)
        · refine Jz_bipush (-2) dX6_pivot_37 (by decide) (fun y37 he37 => ?_)
          exact J_ret (r := some (.int _)) dX6_pivot_39 ⟨rfl, _, rfl, rfl⟩ (⟨⟨_, rfl, (j_rng _).1, (j_rng _).2, (by (try simp only [he37.eq, true_and, and_true]) <;> omega)⟩, rfl⟩)
