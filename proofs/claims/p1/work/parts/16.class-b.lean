set_option maxRecDepth 100000 in
set_option maxHeartbeats 8000000 in
theorem w_X0_turned_z {tS : jTS} (d : Nat) (V0 : jH) (x0 : Int32) (x1 : Int32) (x2 : Int32) (hd : 1 ≤ d)  (hp0 : 0 ≤ x0.toInt) (hp1 : x0.toInt ≤ 3) (hp2 : 0 ≤ x1.toInt) (hp3 : x1.toInt < jtur x0.toInt) (hp4 : 0 ≤ x2.toInt) (hp5 : x2.toInt < jdir x0.toInt) : jTot tS mX0_turned d [.int x0, .int x1, .int x2] V0 0 0 (fun r V => (fun r _ => ∃ y : Int32, r = some (.int y) ∧ ((-2147483648) ≤ y.toInt) ∧ (y.toInt ≤ 2147483647) ∧ (y.toInt = jtn x0.toInt x1.toInt x2.toInt)) r V ∧ V = V0) := by
  refine jTot.of_J [some (.int x0), some (.int x1), some (.int x2), none, none] moX0_turned (Nat.le_of_ble_eq_true rfl) rfl ?_
  have hrx0 := j_rng x0
  have hrx1 := j_rng x1
  have hrx2 := j_rng x2
  have hjd := jdir_cases x0.toInt
  have hjt := jtur_cases x0.toInt
  refine J_iload_n dX0_turned_0 rfl ?_
  refine Jz_iconst 2 dX0_turned_1 (by decide) (fun y1 he1 => ?_)
  refine Jz_icmp_ne (tgt := 7) jEq.rf he1 dX0_turned_2 (by decide) (fun c2 => ?_) (fun c2 => ?_)
  · refine J_iload_n dX0_turned_7 rfl ?_
    refine Jz_iconst 3 dX0_turned_8 (by decide) (fun y8 he8 => ?_)
    refine Jz_icmp_ne (tgt := 18) jEq.rf he8 dX0_turned_9 (by decide) (fun c9 => ?_) (fun c9 => ?_)
    · refine J_iload_n dX0_turned_18 rfl ?_
      refine J_callS1 moX0_directions jw_ml_X0_9 jw_st_X0_directions dX0_turned_19 (w_X0_directions_z (d - 1) _ x0 (by omega)   ) (by omega) (Nat.zero_le _) (Nat.zero_le _) (Nat.le_of_ble_eq_true rfl) (fun r19 V19 h19 => ?_)
      obtain ⟨⟨y19, rfl, hl19, hh19, hP19_0⟩, hE19⟩ := h19
      have hE19 := hE19.symm
      subst hE19
      have hz19 : jEq y19.toInt (jdir (x0.toInt)) := hP19_0
      simp only [hP19_0] at hl19 hh19
      clear hP19_0
      refine J_istore_n dX0_turned_22 rfl (by decide) ?_
      refine J_iload_n dX0_turned_23 rfl ?_
      refine J_iload_n dX0_turned_24 rfl ?_
      refine Jz_icmp_ge (tgt := 34) jEq.rf hz19 dX0_turned_25 (by decide) (fun c25 => ?_) (fun c25 => ?_)
      · refine J_iload_n dX0_turned_34 rfl ?_
        refine J_iload_n dX0_turned_35 rfl ?_
        refine Jz_isub jEq.rf jEq.rf dX0_turned_36 (by omega) (by omega) (fun y36 he36 => ?_)
        refine J_istore dX0_turned_37 rfl (by decide) ?_
        refine J_iload dX0_turned_39 rfl ?_
        refine J_iload_n dX0_turned_41 rfl ?_
        refine Jz_icmp_lt (tgt := 52) he36 hz19 dX0_turned_42 (by decide) (fun c42 => ?_) (fun c42 => ?_)
        · refine J_iload dX0_turned_52 rfl ?_
          exact J_ret (r := some (.int _)) dX0_turned_54 ⟨rfl, _, rfl, rfl⟩ (⟨⟨_, rfl, (j_rng _).1, (j_rng _).2, (by first | ((try simp only [he36.eq, true_and, and_true]) <;> omega) | ((try simp only [he36.eq]); unfold jtn; (repeat' split) <;> omega))⟩, rfl⟩)
        · refine J_iload dX0_turned_45 rfl ?_
          refine J_iload_n dX0_turned_47 rfl ?_
          refine Jz_isub he36 hz19 dX0_turned_48 (by omega) (by omega) (fun y48 he48 => ?_)
          refine J_goto (tgt := 54) dX0_turned_49 (by decide) ?_
          exact J_ret (r := some (.int _)) dX0_turned_54 ⟨rfl, _, rfl, rfl⟩ (⟨⟨_, rfl, (j_rng _).1, (j_rng _).2, (by first | ((try simp only [he48.eq, true_and, and_true]) <;> omega) | ((try simp only [he48.eq]); unfold jtn; (repeat' split) <;> omega))⟩, rfl⟩)
      · refine J_iload_n dX0_turned_28 rfl ?_
        refine J_iload_n dX0_turned_29 rfl ?_
        refine Jz_iadd jEq.rf jEq.rf dX0_turned_30 (by omega) (by omega) (fun y30 he30 => ?_)
        refine J_goto (tgt := 37) dX0_turned_31 (by decide) ?_
        refine J_istore dX0_turned_37 rfl (by decide) ?_
        refine J_iload dX0_turned_39 rfl ?_
        refine J_iload_n dX0_turned_41 rfl ?_
        refine Jz_icmp_lt (tgt := 52) he30 hz19 dX0_turned_42 (by decide) (fun c42 => ?_) (fun c42 => ?_)
        · refine J_iload dX0_turned_52 rfl ?_
          exact J_ret (r := some (.int _)) dX0_turned_54 ⟨rfl, _, rfl, rfl⟩ (⟨⟨_, rfl, (j_rng _).1, (j_rng _).2, (by first | ((try simp only [he30.eq, true_and, and_true]) <;> omega) | ((try simp only [he30.eq]); unfold jtn; (repeat' split) <;> omega))⟩, rfl⟩)
        · refine J_iload dX0_turned_45 rfl ?_
          refine J_iload_n dX0_turned_47 rfl ?_
          refine Jz_isub he30 hz19 dX0_turned_48 (by omega) (by omega) (fun y48 he48 => ?_)
          refine J_goto (tgt := 54) dX0_turned_49 (by decide) ?_
          exact J_ret (r := some (.int _)) dX0_turned_54 ⟨rfl, _, rfl, rfl⟩ (⟨⟨_, rfl, (j_rng _).1, (j_rng _).2, (by first | ((try simp only [he48.eq, true_and, and_true]) <;> omega) | ((try simp only [he48.eq]); unfold jtn; (repeat' split) <;> omega))⟩, rfl⟩)
    · refine J_iload_n dX0_turned_12 rfl ?_
      refine J_iload_n dX0_turned_13 rfl ?_
      refine J_callS2 moX0_turnedInCubes jw_ml_X0_29 jw_st_X0_turnedInCubes dX0_turned_14 (w_X0_turnedInCubes_z (d - 1) _ x1 x2 (by omega)   (by omega) (by omega) (by omega) (by omega)) (by omega) (Nat.zero_le _) (Nat.zero_le _) (Nat.le_of_ble_eq_true rfl) (fun r14 V14 h14 => ?_)
      obtain ⟨⟨y14, rfl, hl14, hh14, hP14_0⟩, hE14⟩ := h14
      have hE14 := hE14.symm
      subst hE14
      clear hl14 hh14
      have hz14 : jEq y14.toInt (jtc (x1.toInt) (x2.toInt)) := hP14_0
      clear hP14_0
      exact J_ret (r := some (.int _)) dX0_turned_17 ⟨rfl, _, rfl, rfl⟩ (⟨⟨_, rfl, (j_rng _).1, (j_rng _).2, (by first | ((try simp only [hz14.eq, true_and, and_true]) <;> omega) | ((try simp only [hz14.eq]); unfold jtn; (repeat' split) <;> omega))⟩, rfl⟩)
  · refine J_iload_n dX0_turned_5 rfl ?_
    exact J_ret (r := some (.int _)) dX0_turned_6 ⟨rfl, _, rfl, rfl⟩ (⟨⟨_, rfl, (j_rng _).1, (j_rng _).2, (by first | (omega) | (unfold jtn; (repeat' split) <;> omega))⟩, rfl⟩)
set_option maxRecDepth 100000 in
set_option maxHeartbeats 8000000 in
theorem w_X3_endX_z {tS : jTS} (d : Nat) (V0 : jH) {ln : Nat} (a0 : Nat) (M : Int32) (g : Int32) (n : Int32) (s : Nat) (xx : Nat) (yy : Nat) (zz : Nat) (S : Nat → Int32) (X : Nat → Int32) (Y : Nat → Int32) (Z : Nat → Int32) (hd : 1 ≤ d) (hW : WT V0) (ha0 : jis V0 (.inr 1) a0) (hf_M : jfI V0 a0 1 0 M) (hf_g : jfI V0 a0 1 5 g) (hf_n : jfI V0 a0 1 6 n) (hr_s : jfR V0 a0 1 1 s) (hr_xx : jfR V0 a0 1 2 xx) (hr_yy : jfR V0 a0 1 3 yy) (hr_zz : jfR V0 a0 1 4 zz) (ha_S : V0 s = some (.inl (6, ln, .inl S))) (ha_X : V0 xx = some (.inl (34, ln + 1, .inl X))) (ha_Y : V0 yy = some (.inl (35, ln + 1, .inl Y))) (ha_Z : V0 zz = some (.inl (36, ln + 1, .inl Z))) (hp0 : M.toInt = (ln : Int)) (hp1 : (ln : Int) ≤ 120) (hp2 : n.toInt ≤ M.toInt) : jTot tS mX3_endX d [.ref a0] V0 0 0 (fun r V => (fun r _ => ∃ y : Int32, r = some (.int y) ∧ ((-2147483648) ≤ y.toInt) ∧ (y.toInt ≤ 2147483647) ∧ (y.toInt = (X n.toInt.toNat).toInt)) r V ∧ V = V0) := by
  refine jTot.of_J [some (.ref a0)] moX3_endX (Nat.le_of_ble_eq_true rfl) rfl ?_
  have he : jeff [] V0 V0 := jeff.refl _ _
  obtain ⟨fs_a0, hO_a0, hK_a0⟩ := WT_obj hW id ha0
  have hF_M := hf_M.get hO_a0
  have hrM : 0 ≤ M.toInt ∧ M.toInt ≤ 120 := jok_rngI hK_a0 rfl hF_M
  have hF_g := hf_g.get hO_a0
  have hrg : (-2147483648) ≤ g.toInt ∧ g.toInt ≤ 2147483647 := jok_rngI hK_a0 rfl hF_g
  have hF_n := hf_n.get hO_a0
  have hrn : 0 ≤ n.toInt ∧ n.toInt ≤ 120 := jok_rngI hK_a0 rfl hF_n
  have hF_s := hr_s.get hO_a0
  obtain ⟨w_s, hFq_s, b_s, hbq_s, hb_s⟩ := hK_a0.2 1 (.inr (some (.inl 6))) rfl
  cases hF_s.symm.trans (hFq_s.trans (congrArg some hbq_s))
  have hF_xx := hr_xx.get hO_a0
  obtain ⟨w_xx, hFq_xx, b_xx, hbq_xx, hb_xx⟩ := hK_a0.2 2 (.inr (some (.inl 34))) rfl
  cases hF_xx.symm.trans (hFq_xx.trans (congrArg some hbq_xx))
  have hF_yy := hr_yy.get hO_a0
  obtain ⟨w_yy, hFq_yy, b_yy, hbq_yy, hb_yy⟩ := hK_a0.2 3 (.inr (some (.inl 35))) rfl
  cases hF_yy.symm.trans (hFq_yy.trans (congrArg some hbq_yy))
  have hF_zz := hr_zz.get hO_a0
  obtain ⟨w_zz, hFq_zz, b_zz, hbq_zz, hb_zz⟩ := hK_a0.2 4 (.inr (some (.inl 36))) rfl
  cases hF_zz.symm.trans (hFq_zz.trans (congrArg some hbq_zz))
  obtain ⟨hN_S, hv_S⟩ := WT_rngI (r := ((-2147483648), 2147483647)) hW id rfl ha_S
  clear hN_S
  obtain ⟨hN_X, hv_X⟩ := WT_rngI (r := ((-2147483648), 2147483647)) hW id rfl ha_X
  clear hN_X
  obtain ⟨hN_Y, hv_Y⟩ := WT_rngI (r := ((-2147483648), 2147483647)) hW id rfl ha_Y
  clear hN_Y
  obtain ⟨hN_Z, hv_Z⟩ := WT_rngI (r := ((-2147483648), 2147483647)) hW id rfl ha_Z
  clear hN_Z
  refine J_aload_n dX3_endX_0 rfl ?_
  refine J_get jf_X3_34 dX3_endX_1 hO_a0 hF_xx ?_
  refine J_aload_n dX3_endX_4 rfl ?_
  refine J_get jf_X3_15 dX3_endX_5 hO_a0 hF_n ?_
  refine J_callSN2 moX6_cell (host := "WalkGrounds") (List.mem_of_getElem? (i := 0) rfl) jw_st_X6_cell dX3_endX_8 (w_X6_cell_x (d - 1) _ xx n ha_X (WT_rngI (r := (-2147483648, 2147483647)) hW id rfl ha_X).1 rfl (by omega) (by omega)) (by omega) (Nat.zero_le _) (Nat.zero_le _) (Nat.le_of_ble_eq_true rfl) (fun r8 V8 h8 => ?_)
  obtain ⟨⟨y8, rfl, hf8⟩, hE8⟩ := h8
  have hE8 := hE8.symm
  subst hE8
  have hz8 : jEq y8.toInt (X (n.toInt).toNat).toInt := by rw [← hf8]; rfl
  clear hf8
  · exact J_ret (r := some (.int _)) dX3_endX_11 ⟨rfl, _, rfl, rfl⟩ (⟨⟨_, rfl, (j_rng _).1, (j_rng _).2, (by (try simp only [hz8.eq, true_and, and_true]) <;> omega)⟩, rfl⟩)
set_option maxRecDepth 100000 in
set_option maxHeartbeats 8000000 in
theorem w_X3_endY_z {tS : jTS} (d : Nat) (V0 : jH) {ln : Nat} (a0 : Nat) (M : Int32) (g : Int32) (n : Int32) (s : Nat) (xx : Nat) (yy : Nat) (zz : Nat) (S : Nat → Int32) (X : Nat → Int32) (Y : Nat → Int32) (Z : Nat → Int32) (hd : 1 ≤ d) (hW : WT V0) (ha0 : jis V0 (.inr 1) a0) (hf_M : jfI V0 a0 1 0 M) (hf_g : jfI V0 a0 1 5 g) (hf_n : jfI V0 a0 1 6 n) (hr_s : jfR V0 a0 1 1 s) (hr_xx : jfR V0 a0 1 2 xx) (hr_yy : jfR V0 a0 1 3 yy) (hr_zz : jfR V0 a0 1 4 zz) (ha_S : V0 s = some (.inl (6, ln, .inl S))) (ha_X : V0 xx = some (.inl (34, ln + 1, .inl X))) (ha_Y : V0 yy = some (.inl (35, ln + 1, .inl Y))) (ha_Z : V0 zz = some (.inl (36, ln + 1, .inl Z))) (hp0 : M.toInt = (ln : Int)) (hp1 : (ln : Int) ≤ 120) (hp2 : n.toInt ≤ M.toInt) : jTot tS mX3_endY d [.ref a0] V0 0 0 (fun r V => (fun r _ => ∃ y : Int32, r = some (.int y) ∧ ((-2147483648) ≤ y.toInt) ∧ (y.toInt ≤ 2147483647) ∧ (y.toInt = (Y n.toInt.toNat).toInt)) r V ∧ V = V0) := by
  refine jTot.of_J [some (.ref a0)] moX3_endY (Nat.le_of_ble_eq_true rfl) rfl ?_
  have he : jeff [] V0 V0 := jeff.refl _ _
  obtain ⟨fs_a0, hO_a0, hK_a0⟩ := WT_obj hW id ha0
  have hF_M := hf_M.get hO_a0
  have hrM : 0 ≤ M.toInt ∧ M.toInt ≤ 120 := jok_rngI hK_a0 rfl hF_M
  have hF_g := hf_g.get hO_a0
  have hrg : (-2147483648) ≤ g.toInt ∧ g.toInt ≤ 2147483647 := jok_rngI hK_a0 rfl hF_g
  have hF_n := hf_n.get hO_a0
  have hrn : 0 ≤ n.toInt ∧ n.toInt ≤ 120 := jok_rngI hK_a0 rfl hF_n
  have hF_s := hr_s.get hO_a0
  obtain ⟨w_s, hFq_s, b_s, hbq_s, hb_s⟩ := hK_a0.2 1 (.inr (some (.inl 6))) rfl
  cases hF_s.symm.trans (hFq_s.trans (congrArg some hbq_s))
  have hF_xx := hr_xx.get hO_a0
  obtain ⟨w_xx, hFq_xx, b_xx, hbq_xx, hb_xx⟩ := hK_a0.2 2 (.inr (some (.inl 34))) rfl
  cases hF_xx.symm.trans (hFq_xx.trans (congrArg some hbq_xx))
  have hF_yy := hr_yy.get hO_a0
  obtain ⟨w_yy, hFq_yy, b_yy, hbq_yy, hb_yy⟩ := hK_a0.2 3 (.inr (some (.inl 35))) rfl
  cases hF_yy.symm.trans (hFq_yy.trans (congrArg some hbq_yy))
  have hF_zz := hr_zz.get hO_a0
  obtain ⟨w_zz, hFq_zz, b_zz, hbq_zz, hb_zz⟩ := hK_a0.2 4 (.inr (some (.inl 36))) rfl
  cases hF_zz.symm.trans (hFq_zz.trans (congrArg some hbq_zz))
  obtain ⟨hN_S, hv_S⟩ := WT_rngI (r := ((-2147483648), 2147483647)) hW id rfl ha_S
  clear hN_S
  obtain ⟨hN_X, hv_X⟩ := WT_rngI (r := ((-2147483648), 2147483647)) hW id rfl ha_X
  clear hN_X
  obtain ⟨hN_Y, hv_Y⟩ := WT_rngI (r := ((-2147483648), 2147483647)) hW id rfl ha_Y
  clear hN_Y
  obtain ⟨hN_Z, hv_Z⟩ := WT_rngI (r := ((-2147483648), 2147483647)) hW id rfl ha_Z
  clear hN_Z
  refine J_aload_n dX3_endY_0 rfl ?_
  refine J_get jf_X3_37 dX3_endY_1 hO_a0 hF_yy ?_
  refine J_aload_n dX3_endY_4 rfl ?_
  refine J_get jf_X3_15 dX3_endY_5 hO_a0 hF_n ?_
  refine J_callSN2 moX6_cell (host := "WalkGrounds") (List.mem_of_getElem? (i := 0) rfl) jw_st_X6_cell dX3_endY_8 (w_X6_cell_x (d - 1) _ yy n ha_Y (WT_rngI (r := (-2147483648, 2147483647)) hW id rfl ha_Y).1 rfl (by omega) (by omega)) (by omega) (Nat.zero_le _) (Nat.zero_le _) (Nat.le_of_ble_eq_true rfl) (fun r8 V8 h8 => ?_)
  obtain ⟨⟨y8, rfl, hf8⟩, hE8⟩ := h8
  have hE8 := hE8.symm
  subst hE8
  have hz8 : jEq y8.toInt (Y (n.toInt).toNat).toInt := by rw [← hf8]; rfl
  clear hf8
  · exact J_ret (r := some (.int _)) dX3_endY_11 ⟨rfl, _, rfl, rfl⟩ (⟨⟨_, rfl, (j_rng _).1, (j_rng _).2, (by (try simp only [hz8.eq, true_and, and_true]) <;> omega)⟩, rfl⟩)
set_option maxRecDepth 100000 in
set_option maxHeartbeats 8000000 in
theorem w_X3_endZ_z {tS : jTS} (d : Nat) (V0 : jH) {ln : Nat} (a0 : Nat) (M : Int32) (g : Int32) (n : Int32) (s : Nat) (xx : Nat) (yy : Nat) (zz : Nat) (S : Nat → Int32) (X : Nat → Int32) (Y : Nat → Int32) (Z : Nat → Int32) (hd : 1 ≤ d) (hW : WT V0) (ha0 : jis V0 (.inr 1) a0) (hf_M : jfI V0 a0 1 0 M) (hf_g : jfI V0 a0 1 5 g) (hf_n : jfI V0 a0 1 6 n) (hr_s : jfR V0 a0 1 1 s) (hr_xx : jfR V0 a0 1 2 xx) (hr_yy : jfR V0 a0 1 3 yy) (hr_zz : jfR V0 a0 1 4 zz) (ha_S : V0 s = some (.inl (6, ln, .inl S))) (ha_X : V0 xx = some (.inl (34, ln + 1, .inl X))) (ha_Y : V0 yy = some (.inl (35, ln + 1, .inl Y))) (ha_Z : V0 zz = some (.inl (36, ln + 1, .inl Z))) (hp0 : M.toInt = (ln : Int)) (hp1 : (ln : Int) ≤ 120) (hp2 : n.toInt ≤ M.toInt) : jTot tS mX3_endZ d [.ref a0] V0 0 0 (fun r V => (fun r _ => ∃ y : Int32, r = some (.int y) ∧ ((-2147483648) ≤ y.toInt) ∧ (y.toInt ≤ 2147483647) ∧ (y.toInt = (Z n.toInt.toNat).toInt)) r V ∧ V = V0) := by
  refine jTot.of_J [some (.ref a0)] moX3_endZ (Nat.le_of_ble_eq_true rfl) rfl ?_
  have he : jeff [] V0 V0 := jeff.refl _ _
  obtain ⟨fs_a0, hO_a0, hK_a0⟩ := WT_obj hW id ha0
  have hF_M := hf_M.get hO_a0
  have hrM : 0 ≤ M.toInt ∧ M.toInt ≤ 120 := jok_rngI hK_a0 rfl hF_M
  have hF_g := hf_g.get hO_a0
  have hrg : (-2147483648) ≤ g.toInt ∧ g.toInt ≤ 2147483647 := jok_rngI hK_a0 rfl hF_g
  have hF_n := hf_n.get hO_a0
  have hrn : 0 ≤ n.toInt ∧ n.toInt ≤ 120 := jok_rngI hK_a0 rfl hF_n
  have hF_s := hr_s.get hO_a0
  obtain ⟨w_s, hFq_s, b_s, hbq_s, hb_s⟩ := hK_a0.2 1 (.inr (some (.inl 6))) rfl
  cases hF_s.symm.trans (hFq_s.trans (congrArg some hbq_s))
  have hF_xx := hr_xx.get hO_a0
  obtain ⟨w_xx, hFq_xx, b_xx, hbq_xx, hb_xx⟩ := hK_a0.2 2 (.inr (some (.inl 34))) rfl
  cases hF_xx.symm.trans (hFq_xx.trans (congrArg some hbq_xx))
  have hF_yy := hr_yy.get hO_a0
  obtain ⟨w_yy, hFq_yy, b_yy, hbq_yy, hb_yy⟩ := hK_a0.2 3 (.inr (some (.inl 35))) rfl
  cases hF_yy.symm.trans (hFq_yy.trans (congrArg some hbq_yy))
  have hF_zz := hr_zz.get hO_a0
  obtain ⟨w_zz, hFq_zz, b_zz, hbq_zz, hb_zz⟩ := hK_a0.2 4 (.inr (some (.inl 36))) rfl
  cases hF_zz.symm.trans (hFq_zz.trans (congrArg some hbq_zz))
  obtain ⟨hN_S, hv_S⟩ := WT_rngI (r := ((-2147483648), 2147483647)) hW id rfl ha_S
  clear hN_S
  obtain ⟨hN_X, hv_X⟩ := WT_rngI (r := ((-2147483648), 2147483647)) hW id rfl ha_X
  clear hN_X
  obtain ⟨hN_Y, hv_Y⟩ := WT_rngI (r := ((-2147483648), 2147483647)) hW id rfl ha_Y
  clear hN_Y
  obtain ⟨hN_Z, hv_Z⟩ := WT_rngI (r := ((-2147483648), 2147483647)) hW id rfl ha_Z
  clear hN_Z
  refine J_aload_n dX3_endZ_0 rfl ?_
  refine J_get jf_X3_40 dX3_endZ_1 hO_a0 hF_zz ?_
  refine J_aload_n dX3_endZ_4 rfl ?_
  refine J_get jf_X3_15 dX3_endZ_5 hO_a0 hF_n ?_
  refine J_callSN2 moX6_cell (host := "WalkGrounds") (List.mem_of_getElem? (i := 0) rfl) jw_st_X6_cell dX3_endZ_8 (w_X6_cell_x (d - 1) _ zz n ha_Z (WT_rngI (r := (-2147483648, 2147483647)) hW id rfl ha_Z).1 rfl (by omega) (by omega)) (by omega) (Nat.zero_le _) (Nat.zero_le _) (Nat.le_of_ble_eq_true rfl) (fun r8 V8 h8 => ?_)
  obtain ⟨⟨y8, rfl, hf8⟩, hE8⟩ := h8
  have hE8 := hE8.symm
  subst hE8
  have hz8 : jEq y8.toInt (Z (n.toInt).toNat).toInt := by rw [← hf8]; rfl
  clear hf8
  · exact J_ret (r := some (.int _)) dX3_endZ_11 ⟨rfl, _, rfl, rfl⟩ (⟨⟨_, rfl, (j_rng _).1, (j_rng _).2, (by (try simp only [hz8.eq, true_and, and_true]) <;> omega)⟩, rfl⟩)
set_option maxRecDepth 100000 in
set_option maxHeartbeats 8000000 in
theorem w_X3_hasCome_z {tS : jTS} (d : Nat) (V0 : jH) {ln : Nat} (a0 : Nat) (x1 : Int32) (x2 : Int32) (x3 : Int32) (M : Int32) (g : Int32) (n : Int32) (s : Nat) (xx : Nat) (yy : Nat) (zz : Nat) (S : Nat → Int32) (X : Nat → Int32) (Y : Nat → Int32) (Z : Nat → Int32) (hd : 1 ≤ d) (hW : WT V0) (ha0 : jis V0 (.inr 1) a0) (hf_M : jfI V0 a0 1 0 M) (hf_g : jfI V0 a0 1 5 g) (hf_n : jfI V0 a0 1 6 n) (hr_s : jfR V0 a0 1 1 s) (hr_xx : jfR V0 a0 1 2 xx) (hr_yy : jfR V0 a0 1 3 yy) (hr_zz : jfR V0 a0 1 4 zz) (ha_S : V0 s = some (.inl (6, ln, .inl S))) (ha_X : V0 xx = some (.inl (34, ln + 1, .inl X))) (ha_Y : V0 yy = some (.inl (35, ln + 1, .inl Y))) (ha_Z : V0 zz = some (.inl (36, ln + 1, .inl Z))) (hp0 : M.toInt = (ln : Int)) (hp1 : (ln : Int) ≤ 120) (hp2 : n.toInt ≤ M.toInt) : jTot tS mX3_hasCome d [.ref a0, .int x1, .int x2, .int x3] V0 0 0 (fun r V => (fun r _ => ∃ y : Int32, r = some (.int y) ∧ (0 ≤ y.toInt) ∧ (y.toInt ≤ 1) ∧ (jIf y 1 (∃ j : Nat, (j : Int) ≤ n.toInt ∧ ((X j).toInt = x1.toInt ∧ (Y j).toInt = x2.toInt ∧ (Z j).toInt = x3.toInt))) ∧ (jIf y 0 (∀ j : Nat, (j : Int) ≤ n.toInt → ¬ ((X j).toInt = x1.toInt ∧ (Y j).toInt = x2.toInt ∧ (Z j).toInt = x3.toInt)))) r V ∧ V = V0) := by
  refine jTot.of_J [some (.ref a0), some (.int x1), some (.int x2), some (.int x3), none] moX3_hasCome (Nat.le_of_ble_eq_true rfl) rfl ?_
  have hrx1 := j_rng x1
  have hrx2 := j_rng x2
  have hrx3 := j_rng x3
  have he : jeff [] V0 V0 := jeff.refl _ _
  obtain ⟨fs_a0, hO_a0, hK_a0⟩ := WT_obj hW id ha0
  have hF_M := hf_M.get hO_a0
  have hrM : 0 ≤ M.toInt ∧ M.toInt ≤ 120 := jok_rngI hK_a0 rfl hF_M
  have hF_g := hf_g.get hO_a0
  have hrg : (-2147483648) ≤ g.toInt ∧ g.toInt ≤ 2147483647 := jok_rngI hK_a0 rfl hF_g
  have hF_n := hf_n.get hO_a0
  have hrn : 0 ≤ n.toInt ∧ n.toInt ≤ 120 := jok_rngI hK_a0 rfl hF_n
  have hF_s := hr_s.get hO_a0
  obtain ⟨w_s, hFq_s, b_s, hbq_s, hb_s⟩ := hK_a0.2 1 (.inr (some (.inl 6))) rfl
  cases hF_s.symm.trans (hFq_s.trans (congrArg some hbq_s))
  have hF_xx := hr_xx.get hO_a0
  obtain ⟨w_xx, hFq_xx, b_xx, hbq_xx, hb_xx⟩ := hK_a0.2 2 (.inr (some (.inl 34))) rfl
  cases hF_xx.symm.trans (hFq_xx.trans (congrArg some hbq_xx))
  have hF_yy := hr_yy.get hO_a0
  obtain ⟨w_yy, hFq_yy, b_yy, hbq_yy, hb_yy⟩ := hK_a0.2 3 (.inr (some (.inl 35))) rfl
  cases hF_yy.symm.trans (hFq_yy.trans (congrArg some hbq_yy))
  have hF_zz := hr_zz.get hO_a0
  obtain ⟨w_zz, hFq_zz, b_zz, hbq_zz, hb_zz⟩ := hK_a0.2 4 (.inr (some (.inl 36))) rfl
  cases hF_zz.symm.trans (hFq_zz.trans (congrArg some hbq_zz))
  obtain ⟨hN_S, hv_S⟩ := WT_rngI (r := ((-2147483648), 2147483647)) hW id rfl ha_S
  clear hN_S
  obtain ⟨hN_X, hv_X⟩ := WT_rngI (r := ((-2147483648), 2147483647)) hW id rfl ha_X
  clear hN_X
  obtain ⟨hN_Y, hv_Y⟩ := WT_rngI (r := ((-2147483648), 2147483647)) hW id rfl ha_Y
  clear hN_Y
  obtain ⟨hN_Z, hv_Z⟩ := WT_rngI (r := ((-2147483648), 2147483647)) hW id rfl ha_Z
  clear hN_Z
  refine J_aload_n dX3_hasCome_0 rfl ?_
  refine J_get jf_X3_15 dX3_hasCome_1 hO_a0 hF_n ?_
  refine J_istore dX3_hasCome_4 rfl (by decide) ?_
  have L6 : ∀ (N : Nat) (i4n6 : Int32), (-1 ≤ i4n6.toInt ∧ i4n6.toInt ≤ n.toInt) → (∀ j : Nat, i4n6.toInt < (j : Int) → (j : Int) ≤ n.toInt → ¬ ((X j).toInt = x1.toInt ∧ (Y j).toInt = x2.toInt ∧ (Z j).toInt = x3.toInt)) → (i4n6.toInt + 2).toNat < N → J tS mX3_hasCome d 6 [some (.ref a0), some (.int x1), some (.int x2), some (.int x3), some (.int i4n6)] [] V0 0 0 (fun r V => (fun r _ => ∃ y : Int32, r = some (.int y) ∧ (0 ≤ y.toInt) ∧ (y.toInt ≤ 1) ∧ (jIf y 1 (∃ j : Nat, (j : Int) ≤ n.toInt ∧ ((X j).toInt = x1.toInt ∧ (Y j).toInt = x2.toInt ∧ (Z j).toInt = x3.toInt))) ∧ (jIf y 0 (∀ j : Nat, (j : Int) ≤ n.toInt → ¬ ((X j).toInt = x1.toInt ∧ (Y j).toInt = x2.toInt ∧ (Z j).toInt = x3.toInt)))) r V ∧ V = V0) := by
    intro N
    induction N with
    | zero => intro i4n6  hi hno hm; exact absurd hm (Nat.not_lt_zero _)
    | succ N ih =>
      intro i4n6  hi hno hm
      have ih6 := ih
      have hri4 := j_rng i4n6
      refine J_iload dX3_hasCome_6 rfl ?_
      refine Jz_if_lt (tgt := 58) jEq.rf dX3_hasCome_8 (by decide) (fun c8 => ?_) (fun c8 => ?_)
      · refine Jz_iconst 0 dX3_hasCome_58 (by decide) (fun y58 he58 => ?_)
        exact J_ret (r := some (.int _)) dX3_hasCome_59 ⟨rfl, _, rfl, (nar_b (by (try simp only [he58.eq, true_and, and_true]) <;> omega) (by (try simp only [he58.eq, true_and, and_true]) <;> omega))⟩ (⟨⟨_, rfl, (by (try simp only [he58.eq, true_and, and_true]) <;> omega), (by (try simp only [he58.eq, true_and, and_true]) <;> omega), (fun h => by rw [he58.eq] at h; omega), (fun _ j hj => hno j (by omega) hj)⟩, rfl⟩)
      · refine J_aload_n dX3_hasCome_11 rfl ?_
        refine J_get jf_X3_34 dX3_hasCome_12 hO_a0 hF_xx ?_
        refine J_iload dX3_hasCome_15 rfl ?_
        refine J_callSN2 moX6_cell (host := "WalkGrounds") (List.mem_of_getElem? (i := 0) rfl) jw_st_X6_cell dX3_hasCome_17 (w_X6_cell_x (d - 1) _ xx i4n6 ha_X (WT_rngI (r := (-2147483648, 2147483647)) hW id rfl ha_X).1 rfl (by omega) (by omega)) (by omega) (Nat.zero_le _) (Nat.zero_le _) (Nat.le_of_ble_eq_true rfl) (fun r17 V17 h17 => ?_)
        obtain ⟨⟨y17, rfl, hf17⟩, hE17⟩ := h17
        have hE17 := hE17.symm
        subst hE17
        have hz17 : jEq y17.toInt (X (i4n6.toInt).toNat).toInt := by rw [← hf17]; rfl
        clear hf17
        · refine J_iload_n dX3_hasCome_20 rfl ?_
          refine Jz_icmp_ne (tgt := 52) hz17 jEq.rf dX3_hasCome_21 (by decide) (fun c21 => ?_) (fun c21 => ?_)
          · refine Jz_iinc (-1) dX3_hasCome_52 rfl rfl (by decide) jEq.rf (by decide) (by omega) (by omega) (fun y52 he52 => ?_)
            refine J_goto (tgt := 6) dX3_hasCome_55 (by decide) ?_
            refine J.mask [true, true, true, true, true] ?_
            exact ih6  y52  (by (try simp only [he52.eq, true_and, and_true]) <;> omega) (fun j h1 h2 h3 => by
   rw [he52.eq] at h1
   by_cases h9 : (j : Int) = i4n6.toInt
   · have e : j = i4n6.toInt.toNat := by omega
     subst e
     omega
   · exact hno j (by omega) h2 h3) (by (try simp only [he52.eq, true_and, and_true]) <;> omega)
          · refine J_aload_n dX3_hasCome_24 rfl ?_
            refine J_get jf_X3_37 dX3_hasCome_25 hO_a0 hF_yy ?_
            refine J_iload dX3_hasCome_28 rfl ?_
            refine J_callSN2 moX6_cell (host := "WalkGrounds") (List.mem_of_getElem? (i := 0) rfl) jw_st_X6_cell dX3_hasCome_30 (w_X6_cell_x (d - 1) _ yy i4n6 ha_Y (WT_rngI (r := (-2147483648, 2147483647)) hW id rfl ha_Y).1 rfl (by omega) (by omega)) (by omega) (Nat.zero_le _) (Nat.zero_le _) (Nat.le_of_ble_eq_true rfl) (fun r30 V30 h30 => ?_)
            obtain ⟨⟨y30, rfl, hf30⟩, hE30⟩ := h30
            have hE30 := hE30.symm
            subst hE30
            have hz30 : jEq y30.toInt (Y (i4n6.toInt).toNat).toInt := by rw [← hf30]; rfl
            clear hf30
            · refine J_iload_n dX3_hasCome_33 rfl ?_
              refine Jz_icmp_ne (tgt := 52) hz30 jEq.rf dX3_hasCome_34 (by decide) (fun c34 => ?_) (fun c34 => ?_)
              · refine Jz_iinc (-1) dX3_hasCome_52 rfl rfl (by decide) jEq.rf (by decide) (by omega) (by omega) (fun y52 he52 => ?_)
                refine J_goto (tgt := 6) dX3_hasCome_55 (by decide) ?_
                refine J.mask [true, true, true, true, true] ?_
                exact ih6  y52  (by (try simp only [he52.eq, true_and, and_true]) <;> omega) (fun j h1 h2 h3 => by
   rw [he52.eq] at h1
   by_cases h9 : (j : Int) = i4n6.toInt
   · have e : j = i4n6.toInt.toNat := by omega
     subst e
     omega
   · exact hno j (by omega) h2 h3) (by (try simp only [he52.eq, true_and, and_true]) <;> omega)
              · refine J_aload_n dX3_hasCome_37 rfl ?_
                refine J_get jf_X3_40 dX3_hasCome_38 hO_a0 hF_zz ?_
                refine J_iload dX3_hasCome_41 rfl ?_
                refine J_callSN2 moX6_cell (host := "WalkGrounds") (List.mem_of_getElem? (i := 0) rfl) jw_st_X6_cell dX3_hasCome_43 (w_X6_cell_x (d - 1) _ zz i4n6 ha_Z (WT_rngI (r := (-2147483648, 2147483647)) hW id rfl ha_Z).1 rfl (by omega) (by omega)) (by omega) (Nat.zero_le _) (Nat.zero_le _) (Nat.le_of_ble_eq_true rfl) (fun r43 V43 h43 => ?_)
                obtain ⟨⟨y43, rfl, hf43⟩, hE43⟩ := h43
                have hE43 := hE43.symm
                subst hE43
                have hz43 : jEq y43.toInt (Z (i4n6.toInt).toNat).toInt := by rw [← hf43]; rfl
                clear hf43
                · refine J_iload_n dX3_hasCome_46 rfl ?_
                  refine Jz_icmp_ne (tgt := 52) hz43 jEq.rf dX3_hasCome_47 (by decide) (fun c47 => ?_) (fun c47 => ?_)
                  · refine Jz_iinc (-1) dX3_hasCome_52 rfl rfl (by decide) jEq.rf (by decide) (by omega) (by omega) (fun y52 he52 => ?_)
                    refine J_goto (tgt := 6) dX3_hasCome_55 (by decide) ?_
                    refine J.mask [true, true, true, true, true] ?_
                    exact ih6  y52  (by (try simp only [he52.eq, true_and, and_true]) <;> omega) (fun j h1 h2 h3 => by
   rw [he52.eq] at h1
   by_cases h9 : (j : Int) = i4n6.toInt
   · have e : j = i4n6.toInt.toNat := by omega
     subst e
     omega
   · exact hno j (by omega) h2 h3) (by (try simp only [he52.eq, true_and, and_true]) <;> omega)
                  · refine Jz_iconst 1 dX3_hasCome_50 (by decide) (fun y50 he50 => ?_)
                    exact J_ret (r := some (.int _)) dX3_hasCome_51 ⟨rfl, _, rfl, (nar_b (by (try simp only [he50.eq, true_and, and_true]) <;> omega) (by (try simp only [he50.eq, true_and, and_true]) <;> omega))⟩ (⟨⟨_, rfl, (by (try simp only [he50.eq, true_and, and_true]) <;> omega), (by (try simp only [he50.eq, true_and, and_true]) <;> omega), (fun _ => ⟨i4n6.toInt.toNat, by omega, c21, c34, c47⟩), (fun h => by rw [he50.eq] at h; omega)⟩, rfl⟩)
  refine J.mask [true, true, true, true, true] ?_
  exact L6 _  n    (by omega) (by omega) (Nat.lt_succ_self _)
set_option maxRecDepth 100000 in
set_option maxHeartbeats 8000000 in
theorem w_X3_leads_z {tS : jTS} (d : Nat) (V0 : jH) {ln : Nat} (a0 : Nat) (x1 : Int32) (M : Int32) (g : Int32) (n : Int32) (s : Nat) (xx : Nat) (yy : Nat) (zz : Nat) (S : Nat → Int32) (X : Nat → Int32) (Y : Nat → Int32) (Z : Nat → Int32) (hd : 2 ≤ d) (hW : WT V0) (ha0 : jis V0 (.inr 1) a0) (hf_M : jfI V0 a0 1 0 M) (hf_g : jfI V0 a0 1 5 g) (hf_n : jfI V0 a0 1 6 n) (hr_s : jfR V0 a0 1 1 s) (hr_xx : jfR V0 a0 1 2 xx) (hr_yy : jfR V0 a0 1 3 yy) (hr_zz : jfR V0 a0 1 4 zz) (ha_S : V0 s = some (.inl (6, ln, .inl S))) (ha_X : V0 xx = some (.inl (34, ln + 1, .inl X))) (ha_Y : V0 yy = some (.inl (35, ln + 1, .inl Y))) (ha_Z : V0 zz = some (.inl (36, ln + 1, .inl Z))) (hp0 : M.toInt = (ln : Int)) (hp1 : (ln : Int) ≤ 120) (hp2 : n.toInt ≤ M.toInt) (hp3 : 0 ≤ g.toInt) (hp4 : g.toInt ≤ 3) (hp5 : 0 ≤ x1.toInt) (hp6 : x1.toInt < jdir g.toInt) (hp7 : -120 ≤ (X n.toInt.toNat).toInt) (hp8 : (X n.toInt.toNat).toInt ≤ 120) (hp9 : -120 ≤ (Y n.toInt.toNat).toInt) (hp10 : (Y n.toInt.toNat).toInt ≤ 120) (hp11 : -120 ≤ (Z n.toInt.toNat).toInt) (hp12 : (Z n.toInt.toNat).toInt ≤ 120) : jTot tS mX3_leads d [.ref a0, .int x1] V0 0 0 (fun r V => (fun r _ => ∃ y : Int32, r = some (.int y) ∧ (0 ≤ y.toInt) ∧ (y.toInt ≤ 1) ∧ (jIf y 1 (∀ j : Nat, (j : Int) ≤ n.toInt → ¬ ((X j).toInt = (X n.toInt.toNat).toInt + jsx g.toInt x1.toInt ∧ (Y j).toInt = (Y n.toInt.toNat).toInt + jsy g.toInt x1.toInt ((X n.toInt.toNat).toInt + (Y n.toInt.toNat).toInt) ∧ (Z j).toInt = (Z n.toInt.toNat).toInt + jsz g.toInt x1.toInt))) ∧ (jIf y 0 (∃ j : Nat, (j : Int) ≤ n.toInt ∧ ((X j).toInt = (X n.toInt.toNat).toInt + jsx g.toInt x1.toInt ∧ (Y j).toInt = (Y n.toInt.toNat).toInt + jsy g.toInt x1.toInt ((X n.toInt.toNat).toInt + (Y n.toInt.toNat).toInt) ∧ (Z j).toInt = (Z n.toInt.toNat).toInt + jsz g.toInt x1.toInt)))) r V ∧ V = V0) := by
  refine jTot.of_J [some (.ref a0), some (.int x1)] moX3_leads (Nat.le_of_ble_eq_true rfl) rfl ?_
  have hrx1 := j_rng x1
  have he : jeff [] V0 V0 := jeff.refl _ _
  obtain ⟨fs_a0, hO_a0, hK_a0⟩ := WT_obj hW id ha0
  have hF_M := hf_M.get hO_a0
  have hrM : 0 ≤ M.toInt ∧ M.toInt ≤ 120 := jok_rngI hK_a0 rfl hF_M
  have hF_g := hf_g.get hO_a0
  have hrg : (-2147483648) ≤ g.toInt ∧ g.toInt ≤ 2147483647 := jok_rngI hK_a0 rfl hF_g
  have hF_n := hf_n.get hO_a0
  have hrn : 0 ≤ n.toInt ∧ n.toInt ≤ 120 := jok_rngI hK_a0 rfl hF_n
  have hF_s := hr_s.get hO_a0
  obtain ⟨w_s, hFq_s, b_s, hbq_s, hb_s⟩ := hK_a0.2 1 (.inr (some (.inl 6))) rfl
  cases hF_s.symm.trans (hFq_s.trans (congrArg some hbq_s))
  have hF_xx := hr_xx.get hO_a0
  obtain ⟨w_xx, hFq_xx, b_xx, hbq_xx, hb_xx⟩ := hK_a0.2 2 (.inr (some (.inl 34))) rfl
  cases hF_xx.symm.trans (hFq_xx.trans (congrArg some hbq_xx))
  have hF_yy := hr_yy.get hO_a0
  obtain ⟨w_yy, hFq_yy, b_yy, hbq_yy, hb_yy⟩ := hK_a0.2 3 (.inr (some (.inl 35))) rfl
  cases hF_yy.symm.trans (hFq_yy.trans (congrArg some hbq_yy))
  have hF_zz := hr_zz.get hO_a0
  obtain ⟨w_zz, hFq_zz, b_zz, hbq_zz, hb_zz⟩ := hK_a0.2 4 (.inr (some (.inl 36))) rfl
  cases hF_zz.symm.trans (hFq_zz.trans (congrArg some hbq_zz))
  obtain ⟨hN_S, hv_S⟩ := WT_rngI (r := ((-2147483648), 2147483647)) hW id rfl ha_S
  clear hN_S
  obtain ⟨hN_X, hv_X⟩ := WT_rngI (r := ((-2147483648), 2147483647)) hW id rfl ha_X
  clear hN_X
  obtain ⟨hN_Y, hv_Y⟩ := WT_rngI (r := ((-2147483648), 2147483647)) hW id rfl ha_Y
  clear hN_Y
  obtain ⟨hN_Z, hv_Z⟩ := WT_rngI (r := ((-2147483648), 2147483647)) hW id rfl ha_Z
  clear hN_Z
  have hjd := jdir_cases g.toInt
  have hbx := jsx_b g.toInt x1.toInt
  have hby := jsy_b g.toInt x1.toInt ((X n.toInt.toNat).toInt + (Y n.toInt.toNat).toInt)
  have hbz := jsz_b g.toInt x1.toInt
  refine J_aload_n dX3_leads_0 rfl ?_
  refine J_aload_n dX3_leads_1 rfl ?_
  refine Jw_callV0 (q9 := (RX3, TX3, 7)) moX3_endX jw_ml_X3_47 jw_im_X3_endX jw_se_X3_endX ha0 rfl rfl dX3_leads_2 (w_X3_endX_z (d - 1) _ a0 M g n s xx yy zz S X Y Z (by omega) hW  ha0 ⟨_, hO_a0, hF_M⟩ ⟨_, hO_a0, hF_g⟩ ⟨_, hO_a0, hF_n⟩ ⟨_, hO_a0, hF_s⟩ ⟨_, hO_a0, hF_xx⟩ ⟨_, hO_a0, hF_yy⟩ ⟨_, hO_a0, hF_zz⟩ ha_S ha_X ha_Y ha_Z (by omega) (by omega) (by omega)) (by omega) (Nat.zero_le _) (Nat.zero_le _) (Nat.le_of_ble_eq_true rfl) (fun r2 V2 h2 => ?_)
  obtain ⟨⟨y2, rfl, hl2, hh2, hP2_0⟩, hE2⟩ := h2
  have hE2 := hE2.symm
  subst hE2
  clear hl2 hh2
  have hz2 : jEq y2.toInt ((X (n.toInt).toNat).toInt) := hP2_0
  clear hP2_0
  refine J_aload_n dX3_leads_5 rfl ?_
  refine J_get jf_X3_9 dX3_leads_6 hO_a0 hF_g ?_
  refine J_iload_n dX3_leads_9 rfl ?_
  refine J_callS2 moX0_shiftX jw_ml_X3_51 jw_st_X0_shiftX dX3_leads_10 (w_X0_shiftX_z (d - 1) _ g x1 (by omega)   (by omega) (by omega) (by omega) (by omega)) (by omega) (Nat.zero_le _) (Nat.zero_le _) (Nat.le_of_ble_eq_true rfl) (fun r10 V10 h10 => ?_)
  obtain ⟨⟨y10, rfl, hl10, hh10, hP10_0⟩, hE10⟩ := h10
  have hE10 := hE10.symm
  subst hE10
  clear hl10 hh10
  have hz10 : jEq y10.toInt (jsx (g.toInt) (x1.toInt)) := hP10_0
  clear hP10_0
  refine Jz_iadd hz2 hz10 dX3_leads_13 (by omega) (by omega) (fun y13 he13 => ?_)
  refine J_aload_n dX3_leads_14 rfl ?_
  refine Jw_callV0 (q9 := (RX3, TX3, 7)) moX3_endY jw_ml_X3_56 jw_im_X3_endY jw_se_X3_endY ha0 rfl rfl dX3_leads_15 (w_X3_endY_z (d - 1) _ a0 M g n s xx yy zz S X Y Z (by omega) hW  ha0 ⟨_, hO_a0, hF_M⟩ ⟨_, hO_a0, hF_g⟩ ⟨_, hO_a0, hF_n⟩ ⟨_, hO_a0, hF_s⟩ ⟨_, hO_a0, hF_xx⟩ ⟨_, hO_a0, hF_yy⟩ ⟨_, hO_a0, hF_zz⟩ ha_S ha_X ha_Y ha_Z (by omega) (by omega) (by omega)) (by omega) (Nat.zero_le _) (Nat.zero_le _) (Nat.le_of_ble_eq_true rfl) (fun r15 V15 h15 => ?_)
  obtain ⟨⟨y15, rfl, hl15, hh15, hP15_0⟩, hE15⟩ := h15
  have hE15 := hE15.symm
  subst hE15
  clear hl15 hh15
  have hz15 : jEq y15.toInt ((Y (n.toInt).toNat).toInt) := hP15_0
  clear hP15_0
  refine J_aload_n dX3_leads_18 rfl ?_
  refine J_get jf_X3_9 dX3_leads_19 hO_a0 hF_g ?_
  refine J_iload_n dX3_leads_22 rfl ?_
  refine J_aload_n dX3_leads_23 rfl ?_
  refine Jw_callV0 (q9 := (RX3, TX3, 7)) moX3_endX jw_ml_X3_47 jw_im_X3_endX jw_se_X3_endX ha0 rfl rfl dX3_leads_24 (w_X3_endX_z (d - 1) _ a0 M g n s xx yy zz S X Y Z (by omega) hW  ha0 ⟨_, hO_a0, hF_M⟩ ⟨_, hO_a0, hF_g⟩ ⟨_, hO_a0, hF_n⟩ ⟨_, hO_a0, hF_s⟩ ⟨_, hO_a0, hF_xx⟩ ⟨_, hO_a0, hF_yy⟩ ⟨_, hO_a0, hF_zz⟩ ha_S ha_X ha_Y ha_Z (by omega) (by omega) (by omega)) (by omega) (Nat.zero_le _) (Nat.zero_le _) (Nat.le_of_ble_eq_true rfl) (fun r24 V24 h24 => ?_)
  obtain ⟨⟨y24, rfl, hl24, hh24, hP24_0⟩, hE24⟩ := h24
  have hE24 := hE24.symm
  subst hE24
  clear hl24 hh24
  have hz24 : jEq y24.toInt ((X (n.toInt).toNat).toInt) := hP24_0
  clear hP24_0
  refine J_aload_n dX3_leads_27 rfl ?_
  refine Jw_callV0 (q9 := (RX3, TX3, 7)) moX3_endY jw_ml_X3_56 jw_im_X3_endY jw_se_X3_endY ha0 rfl rfl dX3_leads_28 (w_X3_endY_z (d - 1) _ a0 M g n s xx yy zz S X Y Z (by omega) hW  ha0 ⟨_, hO_a0, hF_M⟩ ⟨_, hO_a0, hF_g⟩ ⟨_, hO_a0, hF_n⟩ ⟨_, hO_a0, hF_s⟩ ⟨_, hO_a0, hF_xx⟩ ⟨_, hO_a0, hF_yy⟩ ⟨_, hO_a0, hF_zz⟩ ha_S ha_X ha_Y ha_Z (by omega) (by omega) (by omega)) (by omega) (Nat.zero_le _) (Nat.zero_le _) (Nat.le_of_ble_eq_true rfl) (fun r28 V28 h28 => ?_)
  obtain ⟨⟨y28, rfl, hl28, hh28, hP28_0⟩, hE28⟩ := h28
  have hE28 := hE28.symm
  subst hE28
  clear hl28 hh28
  have hz28 : jEq y28.toInt ((Y (n.toInt).toNat).toInt) := hP28_0
  clear hP28_0
  refine J_callS4 moX0_shiftY jw_ml_X3_59 jw_st_X0_shiftY dX3_leads_31 (w_X0_shiftY_z (d - 1) _ g x1 y24 y28 (by omega)   (by omega) (by omega) (by omega) (by omega) (by (try simp only [hz24.eq, true_and, and_true]) <;> omega) (by (try simp only [hz24.eq, true_and, and_true]) <;> omega) (by (try simp only [hz28.eq, true_and, and_true]) <;> omega) (by (try simp only [hz28.eq, true_and, and_true]) <;> omega)) (by omega) (Nat.zero_le _) (Nat.zero_le _) (Nat.le_of_ble_eq_true rfl) (fun r31 V31 h31 => ?_)
  obtain ⟨⟨y31, rfl, hl31, hh31, hP31_0⟩, hE31⟩ := h31
  have hE31 := hE31.symm
  subst hE31
  clear hl31 hh31
  try simp only [hz24.eq, hz28.eq] at hP31_0
  have hz31 : jEq y31.toInt (jsy (g.toInt) (x1.toInt) (((X (n.toInt).toNat).toInt) + ((Y (n.toInt).toNat).toInt))) := hP31_0
  clear hP31_0
  refine Jz_iadd hz15 hz31 dX3_leads_34 (by omega) (by omega) (fun y34 he34 => ?_)
  refine J_aload_n dX3_leads_35 rfl ?_
  refine Jw_callV0 (q9 := (RX3, TX3, 7)) moX3_endZ jw_ml_X3_63 jw_im_X3_endZ jw_se_X3_endZ ha0 rfl rfl dX3_leads_36 (w_X3_endZ_z (d - 1) _ a0 M g n s xx yy zz S X Y Z (by omega) hW  ha0 ⟨_, hO_a0, hF_M⟩ ⟨_, hO_a0, hF_g⟩ ⟨_, hO_a0, hF_n⟩ ⟨_, hO_a0, hF_s⟩ ⟨_, hO_a0, hF_xx⟩ ⟨_, hO_a0, hF_yy⟩ ⟨_, hO_a0, hF_zz⟩ ha_S ha_X ha_Y ha_Z (by omega) (by omega) (by omega)) (by omega) (Nat.zero_le _) (Nat.zero_le _) (Nat.le_of_ble_eq_true rfl) (fun r36 V36 h36 => ?_)
  obtain ⟨⟨y36, rfl, hl36, hh36, hP36_0⟩, hE36⟩ := h36
  have hE36 := hE36.symm
  subst hE36
  clear hl36 hh36
  have hz36 : jEq y36.toInt ((Z (n.toInt).toNat).toInt) := hP36_0
  clear hP36_0
  refine J_aload_n dX3_leads_39 rfl ?_
  refine J_get jf_X3_9 dX3_leads_40 hO_a0 hF_g ?_
  refine J_iload_n dX3_leads_43 rfl ?_
  refine J_callS2 moX0_shiftZ jw_ml_X3_66 jw_st_X0_shiftZ dX3_leads_44 (w_X0_shiftZ_z (d - 1) _ g x1 (by omega)   (by omega) (by omega) (by omega) (by omega)) (by omega) (Nat.zero_le _) (Nat.zero_le _) (Nat.le_of_ble_eq_true rfl) (fun r44 V44 h44 => ?_)
  obtain ⟨⟨y44, rfl, hl44, hh44, hP44_0⟩, hE44⟩ := h44
  have hE44 := hE44.symm
  subst hE44
  clear hl44 hh44
  have hz44 : jEq y44.toInt (jsz (g.toInt) (x1.toInt)) := hP44_0
  clear hP44_0
  refine Jz_iadd hz36 hz44 dX3_leads_47 (by omega) (by omega) (fun y47 he47 => ?_)
  refine Jw_callV3 (q9 := (RX3, TX3, 7)) moX3_hasCome jw_ml_X3_69 jw_im_X3_hasCome jw_se_X3_hasCome ha0 rfl rfl dX3_leads_48 (w_X3_hasCome_z (d - 1) _ a0 y13 y34 y47 M g n s xx yy zz S X Y Z (by omega) hW  ha0 ⟨_, hO_a0, hF_M⟩ ⟨_, hO_a0, hF_g⟩ ⟨_, hO_a0, hF_n⟩ ⟨_, hO_a0, hF_s⟩ ⟨_, hO_a0, hF_xx⟩ ⟨_, hO_a0, hF_yy⟩ ⟨_, hO_a0, hF_zz⟩ ha_S ha_X ha_Y ha_Z (by omega) (by omega) (by omega)) (by omega) (Nat.zero_le _) (Nat.zero_le _) (Nat.le_of_ble_eq_true rfl) (fun r48 V48 h48 => ?_)
  obtain ⟨⟨y48, rfl, hl48, hh48, hI48_0, hI48_1⟩, hE48⟩ := h48
  have hE48 := hE48.symm
  subst hE48
  refine Jz_if_ne (tgt := 58) jEq.rf dX3_leads_51 (by decide) (fun c51 => ?_) (fun c51 => ?_)
  · have q51_0 := hI48_0.of (by omega)
    try simp only [he13.eq, he34.eq, he47.eq] at q51_0
    refine Jz_iconst 0 dX3_leads_58 (by decide) (fun y58 he58 => ?_)
    exact J_ret (r := some (.int _)) dX3_leads_59 ⟨rfl, _, rfl, (nar_b (by (try simp only [he58.eq, true_and, and_true]) <;> omega) (by (try simp only [he58.eq, true_and, and_true]) <;> omega))⟩ (⟨⟨_, rfl, (by (try simp only [he58.eq, true_and, and_true]) <;> omega), (by (try simp only [he58.eq, true_and, and_true]) <;> omega), (fun h => by rw [he58.eq] at h; omega), (fun _ => by have q := hI48_0.of (by omega); simp only [he13.eq, he34.eq, he47.eq] at q; exact q)⟩, rfl⟩)
  · have q51_1 := hI48_1.of (by omega)
    try simp only [he13.eq, he34.eq, he47.eq] at q51_1
    refine Jz_iconst 1 dX3_leads_54 (by decide) (fun y54 he54 => ?_)
    refine J_goto (tgt := 59) dX3_leads_55 (by decide) ?_
    exact J_ret (r := some (.int _)) dX3_leads_59 ⟨rfl, _, rfl, (nar_b (by (try simp only [he54.eq, true_and, and_true]) <;> omega) (by (try simp only [he54.eq, true_and, and_true]) <;> omega))⟩ (⟨⟨_, rfl, (by (try simp only [he54.eq, true_and, and_true]) <;> omega), (by (try simp only [he54.eq, true_and, and_true]) <;> omega), (fun _ => by have q := hI48_1.of (by omega); simp only [he13.eq, he34.eq, he47.eq] at q; exact q), (fun h => by rw [he54.eq] at h; omega)⟩, rfl⟩)
set_option maxRecDepth 100000 in
set_option maxHeartbeats 8000000 in
theorem w_X3_lay_no {tS : jTS} (d : Nat) (V0 : jH) {ln : Nat} (a0 : Nat) (x1 : Int32) (M : Int32) (g : Int32) (n : Int32) (s : Nat) (xx : Nat) (yy : Nat) (zz : Nat) (S : Nat → Int32) (X : Nat → Int32) (Y : Nat → Int32) (Z : Nat → Int32) (hd : 3 ≤ d) (hW : WT V0) (ha0 : jis V0 (.inr 1) a0) (hf_M : jfI V0 a0 1 0 M) (hf_g : jfI V0 a0 1 5 g) (hf_n : jfI V0 a0 1 6 n) (hr_s : jfR V0 a0 1 1 s) (hr_xx : jfR V0 a0 1 2 xx) (hr_yy : jfR V0 a0 1 3 yy) (hr_zz : jfR V0 a0 1 4 zz) (ha_S : V0 s = some (.inl (6, ln, .inl S))) (ha_X : V0 xx = some (.inl (34, ln + 1, .inl X))) (ha_Y : V0 yy = some (.inl (35, ln + 1, .inl Y))) (ha_Z : V0 zz = some (.inl (36, ln + 1, .inl Z))) (hp0 : M.toInt = (ln : Int)) (hp1 : (ln : Int) ≤ 120) (hp2 : n.toInt ≤ M.toInt) (hp3 : 0 ≤ g.toInt) (hp4 : g.toInt ≤ 3) (hp5 : 0 ≤ x1.toInt) (hp6 : x1.toInt < jdir g.toInt) (hp7 : -120 ≤ (X n.toInt.toNat).toInt) (hp8 : (X n.toInt.toNat).toInt ≤ 120) (hp9 : -120 ≤ (Y n.toInt.toNat).toInt) (hp10 : (Y n.toInt.toNat).toInt ≤ 120) (hp11 : -120 ≤ (Z n.toInt.toNat).toInt) (hp12 : (Z n.toInt.toNat).toInt ≤ 120) (hp13 : M.toInt ≤ n.toInt ∨ ∃ j : Nat, (j : Int) ≤ n.toInt ∧ ((X j).toInt = (X n.toInt.toNat).toInt + jsx g.toInt x1.toInt ∧ (Y j).toInt = (Y n.toInt.toNat).toInt + jsy g.toInt x1.toInt ((X n.toInt.toNat).toInt + (Y n.toInt.toNat).toInt) ∧ (Z j).toInt = (Z n.toInt.toNat).toInt + jsz g.toInt x1.toInt)) : jTot tS mX3_lay d [.ref a0, .int x1] V0 0 0 (fun r V => (fun r _ => ∃ y : Int32, r = some (.int y) ∧ (0 ≤ y.toInt) ∧ (y.toInt ≤ 1) ∧ (y.toInt = 0)) r V ∧ V = V0) := by
  refine jTot.of_J [some (.ref a0), some (.int x1), none, none, none] moX3_lay (Nat.le_of_ble_eq_true rfl) rfl ?_
  have hrx1 := j_rng x1
  have he : jeff [] V0 V0 := jeff.refl _ _
  obtain ⟨fs_a0, hO_a0, hK_a0⟩ := WT_obj hW id ha0
  have hF_M := hf_M.get hO_a0
  have hrM : 0 ≤ M.toInt ∧ M.toInt ≤ 120 := jok_rngI hK_a0 rfl hF_M
  have hF_g := hf_g.get hO_a0
  have hrg : (-2147483648) ≤ g.toInt ∧ g.toInt ≤ 2147483647 := jok_rngI hK_a0 rfl hF_g
  have hF_n := hf_n.get hO_a0
  have hrn : 0 ≤ n.toInt ∧ n.toInt ≤ 120 := jok_rngI hK_a0 rfl hF_n
  have hF_s := hr_s.get hO_a0
  obtain ⟨w_s, hFq_s, b_s, hbq_s, hb_s⟩ := hK_a0.2 1 (.inr (some (.inl 6))) rfl
  cases hF_s.symm.trans (hFq_s.trans (congrArg some hbq_s))
  have hF_xx := hr_xx.get hO_a0
  obtain ⟨w_xx, hFq_xx, b_xx, hbq_xx, hb_xx⟩ := hK_a0.2 2 (.inr (some (.inl 34))) rfl
  cases hF_xx.symm.trans (hFq_xx.trans (congrArg some hbq_xx))
  have hF_yy := hr_yy.get hO_a0
  obtain ⟨w_yy, hFq_yy, b_yy, hbq_yy, hb_yy⟩ := hK_a0.2 3 (.inr (some (.inl 35))) rfl
  cases hF_yy.symm.trans (hFq_yy.trans (congrArg some hbq_yy))
  have hF_zz := hr_zz.get hO_a0
  obtain ⟨w_zz, hFq_zz, b_zz, hbq_zz, hb_zz⟩ := hK_a0.2 4 (.inr (some (.inl 36))) rfl
  cases hF_zz.symm.trans (hFq_zz.trans (congrArg some hbq_zz))
  obtain ⟨hN_S, hv_S⟩ := WT_rngI (r := ((-2147483648), 2147483647)) hW id rfl ha_S
  clear hN_S
  obtain ⟨hN_X, hv_X⟩ := WT_rngI (r := ((-2147483648), 2147483647)) hW id rfl ha_X
  clear hN_X
  obtain ⟨hN_Y, hv_Y⟩ := WT_rngI (r := ((-2147483648), 2147483647)) hW id rfl ha_Y
  clear hN_Y
  obtain ⟨hN_Z, hv_Z⟩ := WT_rngI (r := ((-2147483648), 2147483647)) hW id rfl ha_Z
  clear hN_Z
  have hjd := jdir_cases g.toInt
  have hbx := jsx_b g.toInt x1.toInt
  have hby := jsy_b g.toInt x1.toInt ((X n.toInt.toNat).toInt + (Y n.toInt.toNat).toInt)
  have hbz := jsz_b g.toInt x1.toInt
  refine J_aload_n dX3_lay_0 rfl ?_
  refine J_get jf_X3_15 dX3_lay_1 hO_a0 hF_n ?_
  refine J_aload_n dX3_lay_4 rfl ?_
  refine J_get jf_X3_27 dX3_lay_5 hO_a0 hF_M ?_
  refine Jz_icmp_ge (tgt := 19) jEq.rf jEq.rf dX3_lay_8 (by decide) (fun c8 => ?_) (fun c8 => ?_)
  · refine Jz_iconst 0 dX3_lay_19 (by decide) (fun y19 he19 => ?_)
    exact J_ret (r := some (.int _)) dX3_lay_20 ⟨rfl, _, rfl, (nar_b (by (try simp only [he19.eq, true_and, and_true]) <;> omega) (by (try simp only [he19.eq, true_and, and_true]) <;> omega))⟩ (⟨⟨_, rfl, (by (try simp only [he19.eq, true_and, and_true]) <;> omega), (by (try simp only [he19.eq, true_and, and_true]) <;> omega), (by (try simp only [he19.eq, true_and, and_true]) <;> omega)⟩, rfl⟩)
  · refine J_aload_n dX3_lay_11 rfl ?_
    refine J_iload_n dX3_lay_12 rfl ?_
    refine Jw_callV1 (q9 := (RX3, TX3, 7)) moX3_leads jw_ml_X3_73 jw_im_X3_leads jw_se_X3_leads ha0 rfl rfl dX3_lay_13 (w_X3_leads_z (d - 1) _ a0 x1 M g n s xx yy zz S X Y Z (by omega) hW  ha0 ⟨_, hO_a0, hF_M⟩ ⟨_, hO_a0, hF_g⟩ ⟨_, hO_a0, hF_n⟩ ⟨_, hO_a0, hF_s⟩ ⟨_, hO_a0, hF_xx⟩ ⟨_, hO_a0, hF_yy⟩ ⟨_, hO_a0, hF_zz⟩ ha_S ha_X ha_Y ha_Z (by omega) (by omega) (by omega) (by omega) (by omega) (by omega) (by omega) (by omega) (by omega) (by omega) (by omega) (by omega) (by omega)) (by omega) (Nat.zero_le _) (Nat.zero_le _) (Nat.le_of_ble_eq_true rfl) (fun r13 V13 h13 => ?_)
    obtain ⟨⟨y13, rfl, hl13, hh13, hI13_0, hI13_1⟩, hE13⟩ := h13
    have hE13 := hE13.symm
    subst hE13
    refine Jz_if_ne (tgt := 21) jEq.rf dX3_lay_16 (by decide) (fun c16 => ?_) (fun c16 => ?_)
    · have q16_0 := hI13_0.of (by omega)
      exact False.elim (hp13.elim (fun h => by omega) (fun ⟨j, h1, h2⟩ => hI13_0.of (by omega) j h1 h2))
    · have q16_1 := hI13_1.of (by omega)
      refine Jz_iconst 0 dX3_lay_19 (by decide) (fun y19 he19 => ?_)
      exact J_ret (r := some (.int _)) dX3_lay_20 ⟨rfl, _, rfl, (nar_b (by (try simp only [he19.eq, true_and, and_true]) <;> omega) (by (try simp only [he19.eq, true_and, and_true]) <;> omega))⟩ (⟨⟨_, rfl, (by (try simp only [he19.eq, true_and, and_true]) <;> omega), (by (try simp only [he19.eq, true_and, and_true]) <;> omega), (by (try simp only [he19.eq, true_and, and_true]) <;> omega)⟩, rfl⟩)
set_option maxRecDepth 100000 in
set_option maxHeartbeats 8000000 in
theorem w_X3_lay_yes {tS : jTS} (d : Nat) (V0 : jH) {ln : Nat} (a0 : Nat) (x1 : Int32) (M : Int32) (g : Int32) (n : Int32) (s : Nat) (xx : Nat) (yy : Nat) (zz : Nat) (S : Nat → Int32) (X : Nat → Int32) (Y : Nat → Int32) (Z : Nat → Int32) (hd : 3 ≤ d) (hW : WT V0) (ha0 : jis V0 (.inr 1) a0) (hf_M : jfI V0 a0 1 0 M) (hf_g : jfI V0 a0 1 5 g) (hf_n : jfI V0 a0 1 6 n) (hr_s : jfR V0 a0 1 1 s) (hr_xx : jfR V0 a0 1 2 xx) (hr_yy : jfR V0 a0 1 3 yy) (hr_zz : jfR V0 a0 1 4 zz) (ha_S : V0 s = some (.inl (6, ln, .inl S))) (ha_X : V0 xx = some (.inl (34, ln + 1, .inl X))) (ha_Y : V0 yy = some (.inl (35, ln + 1, .inl Y))) (ha_Z : V0 zz = some (.inl (36, ln + 1, .inl Z))) (hp0 : M.toInt = (ln : Int)) (hp1 : (ln : Int) ≤ 120) (hp2 : n.toInt ≤ M.toInt) (hp3 : 0 ≤ g.toInt) (hp4 : g.toInt ≤ 3) (hp5 : 0 ≤ x1.toInt) (hp6 : x1.toInt < jdir g.toInt) (hp7 : -120 ≤ (X n.toInt.toNat).toInt) (hp8 : (X n.toInt.toNat).toInt ≤ 120) (hp9 : -120 ≤ (Y n.toInt.toNat).toInt) (hp10 : (Y n.toInt.toNat).toInt ≤ 120) (hp11 : -120 ≤ (Z n.toInt.toNat).toInt) (hp12 : (Z n.toInt.toNat).toInt ≤ 120) (hp13 : n.toInt < M.toInt) (hp14 : ∀ j : Nat, (j : Int) ≤ n.toInt → ¬ ((X j).toInt = (X n.toInt.toNat).toInt + jsx g.toInt x1.toInt ∧ (Y j).toInt = (Y n.toInt.toNat).toInt + jsy g.toInt x1.toInt ((X n.toInt.toNat).toInt + (Y n.toInt.toNat).toInt) ∧ (Z j).toInt = (Z n.toInt.toNat).toInt + jsz g.toInt x1.toInt)) : jTot tS mX3_lay d [.ref a0, .int x1] V0 0 0 (fun r V => (jPost [.inr 1, .inl 6, .inl 34, .inl 35, .inl 36] V0 (fun r _ => ∃ y : Int32, r = some (.int y) ∧ (0 ≤ y.toInt) ∧ (y.toInt ≤ 1) ∧ (y.toInt = 1))) r V ∧ (∃ S2 : Nat → Int32, V s = some (.inl (6, ln, .inl S2)) ∧ S2 n.toInt.toNat = x1 ∧ ∀ j : Nat, j ≠ n.toInt.toNat → S2 j = S j) ∧ (∃ X2 : Nat → Int32, V xx = some (.inl (34, ln + 1, .inl X2)) ∧ (X2 (n.toInt.toNat + 1)).toInt = (X n.toInt.toNat).toInt + jsx g.toInt x1.toInt ∧ ∀ j : Nat, j ≠ n.toInt.toNat + 1 → X2 j = X j) ∧ (∃ Y2 : Nat → Int32, V yy = some (.inl (35, ln + 1, .inl Y2)) ∧ (Y2 (n.toInt.toNat + 1)).toInt = (Y n.toInt.toNat).toInt + jsy g.toInt x1.toInt ((X n.toInt.toNat).toInt + (Y n.toInt.toNat).toInt) ∧ ∀ j : Nat, j ≠ n.toInt.toNat + 1 → Y2 j = Y j) ∧ (∃ Z2 : Nat → Int32, V zz = some (.inl (36, ln + 1, .inl Z2)) ∧ (Z2 (n.toInt.toNat + 1)).toInt = (Z n.toInt.toNat).toInt + jsz g.toInt x1.toInt ∧ ∀ j : Nat, j ≠ n.toInt.toNat + 1 → Z2 j = Z j) ∧ jfp [a0, s, xx, yy, zz] V0 V ∧ (∃ n2 : Int32, jfI V a0 1 6 n2 ∧ (n2.toInt = n.toInt + 1)) ∧ (∃ M2 : Int32, jfI V a0 1 0 M2 ∧ (M2.toInt = M.toInt)) ∧ (∃ g2 : Int32, jfI V a0 1 5 g2 ∧ (g2.toInt = g.toInt))) := by
  refine jTot.of_J [some (.ref a0), some (.int x1), none, none, none] moX3_lay (Nat.le_of_ble_eq_true rfl) rfl ?_
  have hrx1 := j_rng x1
  have he : jeff [.inr 1, .inl 6, .inl 34, .inl 35, .inl 36] V0 V0 := jeff.refl _ _
  have hfp : jfp [a0, s, xx, yy, zz] V0 V0 := jfp.rf
  obtain ⟨fs_a0, hO_a0, hK_a0⟩ := WT_obj hW id ha0
  have hF_M := hf_M.get hO_a0
  have hrM : 0 ≤ M.toInt ∧ M.toInt ≤ 120 := jok_rngI hK_a0 rfl hF_M
  have hF_g := hf_g.get hO_a0
  have hrg : (-2147483648) ≤ g.toInt ∧ g.toInt ≤ 2147483647 := jok_rngI hK_a0 rfl hF_g
  have hF_n := hf_n.get hO_a0
  have hrn : 0 ≤ n.toInt ∧ n.toInt ≤ 120 := jok_rngI hK_a0 rfl hF_n
  have hF_s := hr_s.get hO_a0
  obtain ⟨w_s, hFq_s, b_s, hbq_s, hb_s⟩ := hK_a0.2 1 (.inr (some (.inl 6))) rfl
  cases hF_s.symm.trans (hFq_s.trans (congrArg some hbq_s))
  have hF_xx := hr_xx.get hO_a0
  obtain ⟨w_xx, hFq_xx, b_xx, hbq_xx, hb_xx⟩ := hK_a0.2 2 (.inr (some (.inl 34))) rfl
  cases hF_xx.symm.trans (hFq_xx.trans (congrArg some hbq_xx))
  have hF_yy := hr_yy.get hO_a0
  obtain ⟨w_yy, hFq_yy, b_yy, hbq_yy, hb_yy⟩ := hK_a0.2 3 (.inr (some (.inl 35))) rfl
  cases hF_yy.symm.trans (hFq_yy.trans (congrArg some hbq_yy))
  have hF_zz := hr_zz.get hO_a0
  obtain ⟨w_zz, hFq_zz, b_zz, hbq_zz, hb_zz⟩ := hK_a0.2 4 (.inr (some (.inl 36))) rfl
  cases hF_zz.symm.trans (hFq_zz.trans (congrArg some hbq_zz))
  obtain ⟨hN_S, hv_S⟩ := WT_rngI (r := ((-2147483648), 2147483647)) hW id rfl ha_S
  clear hN_S
  obtain ⟨hN_X, hv_X⟩ := WT_rngI (r := ((-2147483648), 2147483647)) hW id rfl ha_X
  clear hN_X
  obtain ⟨hN_Y, hv_Y⟩ := WT_rngI (r := ((-2147483648), 2147483647)) hW id rfl ha_Y
  clear hN_Y
  obtain ⟨hN_Z, hv_Z⟩ := WT_rngI (r := ((-2147483648), 2147483647)) hW id rfl ha_Z
  clear hN_Z
  have hjd := jdir_cases g.toInt
  have hbx := jsx_b g.toInt x1.toInt
  have hby := jsy_b g.toInt x1.toInt ((X n.toInt.toNat).toInt + (Y n.toInt.toNat).toInt)
  have hbz := jsz_b g.toInt x1.toInt
  refine J_aload_n dX3_lay_0 rfl ?_
  refine J_get jf_X3_15 dX3_lay_1 hO_a0 hF_n ?_
  refine J_aload_n dX3_lay_4 rfl ?_
  refine J_get jf_X3_27 dX3_lay_5 hO_a0 hF_M ?_
  refine Jz_icmp_ge (tgt := 19) jEq.rf jEq.rf dX3_lay_8 (by decide) (fun c8 => ?_) (fun c8 => ?_)
  · refine Jz_iconst 0 dX3_lay_19 (by decide) (fun y19 he19 => ?_)
    exact False.elim (by first | omega | (obtain ⟨j, h1, h2⟩ := hI13_1.of (by omega); exact hp14 j h1 h2))
  · refine J_aload_n dX3_lay_11 rfl ?_
    refine J_iload_n dX3_lay_12 rfl ?_
    refine Jw_callV1 (q9 := (RX3, TX3, 7)) moX3_leads jw_ml_X3_73 jw_im_X3_leads jw_se_X3_leads ha0 rfl rfl dX3_lay_13 (w_X3_leads_z (d - 1) _ a0 x1 M g n s xx yy zz S X Y Z (by omega) hW  ha0 ⟨_, hO_a0, hF_M⟩ ⟨_, hO_a0, hF_g⟩ ⟨_, hO_a0, hF_n⟩ ⟨_, hO_a0, hF_s⟩ ⟨_, hO_a0, hF_xx⟩ ⟨_, hO_a0, hF_yy⟩ ⟨_, hO_a0, hF_zz⟩ ha_S ha_X ha_Y ha_Z (by omega) (by omega) (by omega) (by omega) (by omega) (by omega) (by omega) (by omega) (by omega) (by omega) (by omega) (by omega) (by omega)) (by omega) (Nat.zero_le _) (Nat.zero_le _) (Nat.le_of_ble_eq_true rfl) (fun r13 V13 h13 => ?_)
    obtain ⟨⟨y13, rfl, hl13, hh13, hI13_0, hI13_1⟩, hE13⟩ := h13
    have hE13 := hE13.symm
    subst hE13
    refine Jz_if_ne (tgt := 21) jEq.rf dX3_lay_16 (by decide) (fun c16 => ?_) (fun c16 => ?_)
    · have q16_0 := hI13_0.of (by omega)
      refine J_aload_n dX3_lay_21 rfl ?_
      refine Jw_callV0 (q9 := (RX3, TX3, 7)) moX3_endX jw_ml_X3_47 jw_im_X3_endX jw_se_X3_endX ha0 rfl rfl dX3_lay_22 (w_X3_endX_z (d - 1) _ a0 M g n s xx yy zz S X Y Z (by omega) hW  ha0 ⟨_, hO_a0, hF_M⟩ ⟨_, hO_a0, hF_g⟩ ⟨_, hO_a0, hF_n⟩ ⟨_, hO_a0, hF_s⟩ ⟨_, hO_a0, hF_xx⟩ ⟨_, hO_a0, hF_yy⟩ ⟨_, hO_a0, hF_zz⟩ ha_S ha_X ha_Y ha_Z (by omega) (by omega) (by omega)) (by omega) (Nat.zero_le _) (Nat.zero_le _) (Nat.le_of_ble_eq_true rfl) (fun r22 V22 h22 => ?_)
      obtain ⟨⟨y22, rfl, hl22, hh22, hP22_0⟩, hE22⟩ := h22
      have hE22 := hE22.symm
      subst hE22
      clear hl22 hh22
      have hz22 : jEq y22.toInt ((X (n.toInt).toNat).toInt) := hP22_0
      clear hP22_0
      refine J_aload_n dX3_lay_25 rfl ?_
      refine J_get jf_X3_9 dX3_lay_26 hO_a0 hF_g ?_
      refine J_iload_n dX3_lay_29 rfl ?_
      refine J_callS2 moX0_shiftX jw_ml_X3_51 jw_st_X0_shiftX dX3_lay_30 (w_X0_shiftX_z (d - 1) _ g x1 (by omega)   (by omega) (by omega) (by omega) (by omega)) (by omega) (Nat.zero_le _) (Nat.zero_le _) (Nat.le_of_ble_eq_true rfl) (fun r30 V30 h30 => ?_)
      obtain ⟨⟨y30, rfl, hl30, hh30, hP30_0⟩, hE30⟩ := h30
      have hE30 := hE30.symm
      subst hE30
      clear hl30 hh30
      have hz30 : jEq y30.toInt (jsx (g.toInt) (x1.toInt)) := hP30_0
      clear hP30_0
      refine Jz_iadd hz22 hz30 dX3_lay_33 (by omega) (by omega) (fun y33 he33 => ?_)
      refine J_istore_n dX3_lay_34 rfl (by decide) ?_
      refine J_aload_n dX3_lay_35 rfl ?_
      refine Jw_callV0 (q9 := (RX3, TX3, 7)) moX3_endY jw_ml_X3_56 jw_im_X3_endY jw_se_X3_endY ha0 rfl rfl dX3_lay_36 (w_X3_endY_z (d - 1) _ a0 M g n s xx yy zz S X Y Z (by omega) hW  ha0 ⟨_, hO_a0, hF_M⟩ ⟨_, hO_a0, hF_g⟩ ⟨_, hO_a0, hF_n⟩ ⟨_, hO_a0, hF_s⟩ ⟨_, hO_a0, hF_xx⟩ ⟨_, hO_a0, hF_yy⟩ ⟨_, hO_a0, hF_zz⟩ ha_S ha_X ha_Y ha_Z (by omega) (by omega) (by omega)) (by omega) (Nat.zero_le _) (Nat.zero_le _) (Nat.le_of_ble_eq_true rfl) (fun r36 V36 h36 => ?_)
      obtain ⟨⟨y36, rfl, hl36, hh36, hP36_0⟩, hE36⟩ := h36
      have hE36 := hE36.symm
      subst hE36
      clear hl36 hh36
      have hz36 : jEq y36.toInt ((Y (n.toInt).toNat).toInt) := hP36_0
      clear hP36_0
      refine J_aload_n dX3_lay_39 rfl ?_
      refine J_get jf_X3_9 dX3_lay_40 hO_a0 hF_g ?_
      refine J_iload_n dX3_lay_43 rfl ?_
      refine J_aload_n dX3_lay_44 rfl ?_
      refine Jw_callV0 (q9 := (RX3, TX3, 7)) moX3_endX jw_ml_X3_47 jw_im_X3_endX jw_se_X3_endX ha0 rfl rfl dX3_lay_45 (w_X3_endX_z (d - 1) _ a0 M g n s xx yy zz S X Y Z (by omega) hW  ha0 ⟨_, hO_a0, hF_M⟩ ⟨_, hO_a0, hF_g⟩ ⟨_, hO_a0, hF_n⟩ ⟨_, hO_a0, hF_s⟩ ⟨_, hO_a0, hF_xx⟩ ⟨_, hO_a0, hF_yy⟩ ⟨_, hO_a0, hF_zz⟩ ha_S ha_X ha_Y ha_Z (by omega) (by omega) (by omega)) (by omega) (Nat.zero_le _) (Nat.zero_le _) (Nat.le_of_ble_eq_true rfl) (fun r45 V45 h45 => ?_)
      obtain ⟨⟨y45, rfl, hl45, hh45, hP45_0⟩, hE45⟩ := h45
      have hE45 := hE45.symm
      subst hE45
      clear hl45 hh45
      have hz45 : jEq y45.toInt ((X (n.toInt).toNat).toInt) := hP45_0
      clear hP45_0
      refine J_aload_n dX3_lay_48 rfl ?_
      refine Jw_callV0 (q9 := (RX3, TX3, 7)) moX3_endY jw_ml_X3_56 jw_im_X3_endY jw_se_X3_endY ha0 rfl rfl dX3_lay_49 (w_X3_endY_z (d - 1) _ a0 M g n s xx yy zz S X Y Z (by omega) hW  ha0 ⟨_, hO_a0, hF_M⟩ ⟨_, hO_a0, hF_g⟩ ⟨_, hO_a0, hF_n⟩ ⟨_, hO_a0, hF_s⟩ ⟨_, hO_a0, hF_xx⟩ ⟨_, hO_a0, hF_yy⟩ ⟨_, hO_a0, hF_zz⟩ ha_S ha_X ha_Y ha_Z (by omega) (by omega) (by omega)) (by omega) (Nat.zero_le _) (Nat.zero_le _) (Nat.le_of_ble_eq_true rfl) (fun r49 V49 h49 => ?_)
      obtain ⟨⟨y49, rfl, hl49, hh49, hP49_0⟩, hE49⟩ := h49
      have hE49 := hE49.symm
      subst hE49
      clear hl49 hh49
      have hz49 : jEq y49.toInt ((Y (n.toInt).toNat).toInt) := hP49_0
      clear hP49_0
      refine J_callS4 moX0_shiftY jw_ml_X3_59 jw_st_X0_shiftY dX3_lay_52 (w_X0_shiftY_z (d - 1) _ g x1 y45 y49 (by omega)   (by omega) (by omega) (by omega) (by omega) (by (try simp only [hz45.eq, true_and, and_true]) <;> omega) (by (try simp only [hz45.eq, true_and, and_true]) <;> omega) (by (try simp only [hz49.eq, true_and, and_true]) <;> omega) (by (try simp only [hz49.eq, true_and, and_true]) <;> omega)) (by omega) (Nat.zero_le _) (Nat.zero_le _) (Nat.le_of_ble_eq_true rfl) (fun r52 V52 h52 => ?_)
      obtain ⟨⟨y52, rfl, hl52, hh52, hP52_0⟩, hE52⟩ := h52
      have hE52 := hE52.symm
      subst hE52
      clear hl52 hh52
      try simp only [hz45.eq, hz49.eq] at hP52_0
      have hz52 : jEq y52.toInt (jsy (g.toInt) (x1.toInt) (((X (n.toInt).toNat).toInt) + ((Y (n.toInt).toNat).toInt))) := hP52_0
      clear hP52_0
      refine Jz_iadd hz36 hz52 dX3_lay_55 (by omega) (by omega) (fun y55 he55 => ?_)
      refine J_istore_n dX3_lay_56 rfl (by decide) ?_
      refine J_aload_n dX3_lay_57 rfl ?_
      refine Jw_callV0 (q9 := (RX3, TX3, 7)) moX3_endZ jw_ml_X3_63 jw_im_X3_endZ jw_se_X3_endZ ha0 rfl rfl dX3_lay_58 (w_X3_endZ_z (d - 1) _ a0 M g n s xx yy zz S X Y Z (by omega) hW  ha0 ⟨_, hO_a0, hF_M⟩ ⟨_, hO_a0, hF_g⟩ ⟨_, hO_a0, hF_n⟩ ⟨_, hO_a0, hF_s⟩ ⟨_, hO_a0, hF_xx⟩ ⟨_, hO_a0, hF_yy⟩ ⟨_, hO_a0, hF_zz⟩ ha_S ha_X ha_Y ha_Z (by omega) (by omega) (by omega)) (by omega) (Nat.zero_le _) (Nat.zero_le _) (Nat.le_of_ble_eq_true rfl) (fun r58 V58 h58 => ?_)
      obtain ⟨⟨y58, rfl, hl58, hh58, hP58_0⟩, hE58⟩ := h58
      have hE58 := hE58.symm
      subst hE58
      clear hl58 hh58
      have hz58 : jEq y58.toInt ((Z (n.toInt).toNat).toInt) := hP58_0
      clear hP58_0
      refine J_aload_n dX3_lay_61 rfl ?_
      refine J_get jf_X3_9 dX3_lay_62 hO_a0 hF_g ?_
      refine J_iload_n dX3_lay_65 rfl ?_
      refine J_callS2 moX0_shiftZ jw_ml_X3_66 jw_st_X0_shiftZ dX3_lay_66 (w_X0_shiftZ_z (d - 1) _ g x1 (by omega)   (by omega) (by omega) (by omega) (by omega)) (by omega) (Nat.zero_le _) (Nat.zero_le _) (Nat.le_of_ble_eq_true rfl) (fun r66 V66 h66 => ?_)
      obtain ⟨⟨y66, rfl, hl66, hh66, hP66_0⟩, hE66⟩ := h66
      have hE66 := hE66.symm
      subst hE66
      clear hl66 hh66
      have hz66 : jEq y66.toInt (jsz (g.toInt) (x1.toInt)) := hP66_0
      clear hP66_0
      refine Jz_iadd hz58 hz66 dX3_lay_69 (by omega) (by omega) (fun y69 he69 => ?_)
      refine J_istore dX3_lay_70 rfl (by decide) ?_
      refine J_aload_n dX3_lay_72 rfl ?_
      refine J_get jf_X3_30 dX3_lay_73 hO_a0 hF_s ?_
      refine J_aload_n dX3_lay_76 rfl ?_
      refine J_get jf_X3_15 dX3_lay_77 hO_a0 hF_n ?_
      refine J_iload_n dX3_lay_80 rfl ?_
      refine J_callSN3 moX6_put (host := "WalkGrounds") (List.mem_of_getElem? (i := 1) rfl) jw_st_X6_put dX3_lay_81 (w_X6_put_z (d - 1) _ s n x1 hW ha_S (WT_rngI (r := (-2147483648, 2147483647)) hW id rfl ha_S).1 rfl rfl (by omega)) (by omega) (Nat.zero_le _) (Nat.zero_le _) (Nat.le_of_ble_eq_true rfl) (fun r81 V81 h81 => ?_)
      obtain ⟨rfl, hW, hx81, hB81, G81, hA81, hp81, ho81⟩ := h81
      obtain ⟨hN81, hv81⟩ := WT_rngI (r := (-2147483648, 2147483647)) hW id rfl hA81
      clear hN81
      have he := he.trans (hx81.sub (jsub_of rfl))
      have hfp := hfp.trans (jfp.one hB81 (List.mem_cons_of_mem _ List.mem_cons_self))
      have ha0 := ha0.mono hx81.1
      have hb_s := hb_s.mono hx81.1
      have hb_xx := hb_xx.mono hx81.1
      have hb_yy := hb_yy.mono hx81.1
      have hb_zz := hb_zz.mono hx81.1
      have hO_a0 := hx81.2 _ _ hO_a0 (jnot_of rfl)
      have hK_a0 := hK_a0.mono hx81.1
      have ha_X := hx81.2 _ _ ha_X (jnot_of rfl)
      have ha_Y := hx81.2 _ _ ha_Y (jnot_of rfl)
      have ha_Z := hx81.2 _ _ ha_Z (jnot_of rfl)
      · refine J_aload_n dX3_lay_84 rfl ?_
        refine J_dup dX3_lay_85 rfl ?_
        refine J_get jf_X3_15 dX3_lay_86 hO_a0 hF_n ?_
        refine Jz_iconst 1 dX3_lay_89 (by decide) (fun y89 he89 => ?_)
        refine Jz_iadd jEq.rf he89 dX3_lay_90 (by omega) (by omega) (fun y90 he90 => ?_)
        refine Jz_putI hO_a0 hW id rfl jf_X3_15 jt_X3_6 he90 dX3_lay_91 (by omega) (by omega) (fun _ _ => ⟨rfl, rfl⟩) (fun V91 fs91 hW hx91 hO91 hS91 hT91 hB91 => ?_)
        have hK91 : jokO _ (jFs 1) fs91 := hW _ _ id hO91
        have hF91_0 := (hT91 0 (by decide)).trans hF_M
        have hF91_5 := (hT91 5 (by decide)).trans hF_g
        have hF91_1 := (hT91 1 (by decide)).trans hF_s
        have hF91_2 := (hT91 2 (by decide)).trans hF_xx
        have hF91_3 := (hT91 3 (by decide)).trans hF_yy
        have hF91_4 := (hT91 4 (by decide)).trans hF_zz
        have he := he.trans (hx91.sub (jsub_of rfl))
        have hfp := hfp.trans (jfp.one hB91 List.mem_cons_self)
        have ha0 := ha0.mono hx91.1
        have hb_s := hb_s.mono hx91.1
        have hb_xx := hb_xx.mono hx91.1
        have hb_yy := hb_yy.mono hx91.1
        have hb_zz := hb_zz.mono hx91.1
        have ha_X := hx91.2 _ _ ha_X (jnot_of rfl)
        have ha_Y := hx91.2 _ _ ha_Y (jnot_of rfl)
        have ha_Z := hx91.2 _ _ ha_Z (jnot_of rfl)
        have hA81 := hx91.2 _ _ hA81 (jnot_of rfl)
        refine J_aload_n dX3_lay_94 rfl ?_
        refine J_get jf_X3_34 dX3_lay_95 hO91 hF91_2 ?_
        refine J_aload_n dX3_lay_98 rfl ?_
        refine J_get jf_X3_15 dX3_lay_99 hO91 hS91 ?_
        refine J_iload_n dX3_lay_102 rfl ?_
        refine J_callSN3 moX6_put (host := "WalkGrounds") (List.mem_of_getElem? (i := 1) rfl) jw_st_X6_put dX3_lay_103 (w_X6_put_z (d - 1) _ xx y90 y33 hW ha_X (WT_rngI (r := (-2147483648, 2147483647)) hW id rfl ha_X).1 rfl rfl (by (try simp only [he90.eq, true_and, and_true]) <;> omega)) (by omega) (Nat.zero_le _) (Nat.zero_le _) (Nat.le_of_ble_eq_true rfl) (fun r103 V103 h103 => ?_)
        obtain ⟨rfl, hW, hx103, hB103, G103, hA103, hp103, ho103⟩ := h103
        simp only [he90.eq] at hp103 ho103
        obtain ⟨hN103, hv103⟩ := WT_rngI (r := (-2147483648, 2147483647)) hW id rfl hA103
        clear hN103
        have he := he.trans (hx103.sub (jsub_of rfl))
        have hfp := hfp.trans (jfp.one hB103 (List.mem_cons_of_mem _ (List.mem_cons_of_mem _ List.mem_cons_self)))
        have ha0 := ha0.mono hx103.1
        have hb_s := hb_s.mono hx103.1
        have hb_xx := hb_xx.mono hx103.1
        have hb_yy := hb_yy.mono hx103.1
        have hb_zz := hb_zz.mono hx103.1
        have hO91 := hx103.2 _ _ hO91 (jnot_of rfl)
        have hK91 := hK91.mono hx103.1
        have ha_Y := hx103.2 _ _ ha_Y (jnot_of rfl)
        have ha_Z := hx103.2 _ _ ha_Z (jnot_of rfl)
        have hA81 := hx103.2 _ _ hA81 (jnot_of rfl)
        · refine J_aload_n dX3_lay_106 rfl ?_
          refine J_get jf_X3_37 dX3_lay_107 hO91 hF91_3 ?_
          refine J_aload_n dX3_lay_110 rfl ?_
          refine J_get jf_X3_15 dX3_lay_111 hO91 hS91 ?_
          refine J_iload_n dX3_lay_114 rfl ?_
          refine J_callSN3 moX6_put (host := "WalkGrounds") (List.mem_of_getElem? (i := 1) rfl) jw_st_X6_put dX3_lay_115 (w_X6_put_z (d - 1) _ yy y90 y55 hW ha_Y (WT_rngI (r := (-2147483648, 2147483647)) hW id rfl ha_Y).1 rfl rfl (by (try simp only [he90.eq, true_and, and_true]) <;> omega)) (by omega) (Nat.zero_le _) (Nat.zero_le _) (Nat.le_of_ble_eq_true rfl) (fun r115 V115 h115 => ?_)
          obtain ⟨rfl, hW, hx115, hB115, G115, hA115, hp115, ho115⟩ := h115
          simp only [he90.eq] at hp115 ho115
          obtain ⟨hN115, hv115⟩ := WT_rngI (r := (-2147483648, 2147483647)) hW id rfl hA115
          clear hN115
          have he := he.trans (hx115.sub (jsub_of rfl))
          have hfp := hfp.trans (jfp.one hB115 (List.mem_cons_of_mem _ (List.mem_cons_of_mem _ (List.mem_cons_of_mem _ List.mem_cons_self))))
          have ha0 := ha0.mono hx115.1
          have hb_s := hb_s.mono hx115.1
          have hb_xx := hb_xx.mono hx115.1
          have hb_yy := hb_yy.mono hx115.1
          have hb_zz := hb_zz.mono hx115.1
          have hO91 := hx115.2 _ _ hO91 (jnot_of rfl)
          have hK91 := hK91.mono hx115.1
          have ha_Z := hx115.2 _ _ ha_Z (jnot_of rfl)
          have hA81 := hx115.2 _ _ hA81 (jnot_of rfl)
          have hA103 := hx115.2 _ _ hA103 (jnot_of rfl)
          · refine J_aload_n dX3_lay_118 rfl ?_
            refine J_get jf_X3_40 dX3_lay_119 hO91 hF91_4 ?_
            refine J_aload_n dX3_lay_122 rfl ?_
            refine J_get jf_X3_15 dX3_lay_123 hO91 hS91 ?_
            refine J_iload dX3_lay_126 rfl ?_
            refine J_callSN3 moX6_put (host := "WalkGrounds") (List.mem_of_getElem? (i := 1) rfl) jw_st_X6_put dX3_lay_128 (w_X6_put_z (d - 1) _ zz y90 y69 hW ha_Z (WT_rngI (r := (-2147483648, 2147483647)) hW id rfl ha_Z).1 rfl rfl (by (try simp only [he90.eq, true_and, and_true]) <;> omega)) (by omega) (Nat.zero_le _) (Nat.zero_le _) (Nat.le_of_ble_eq_true rfl) (fun r128 V128 h128 => ?_)
            obtain ⟨rfl, hW, hx128, hB128, G128, hA128, hp128, ho128⟩ := h128
            simp only [he90.eq] at hp128 ho128
            obtain ⟨hN128, hv128⟩ := WT_rngI (r := (-2147483648, 2147483647)) hW id rfl hA128
            clear hN128
            have he := he.trans (hx128.sub (jsub_of rfl))
            have hfp := hfp.trans (jfp.one hB128 (List.mem_cons_of_mem _ (List.mem_cons_of_mem _ (List.mem_cons_of_mem _ (List.mem_cons_of_mem _ List.mem_cons_self)))))
            have ha0 := ha0.mono hx128.1
            have hb_s := hb_s.mono hx128.1
            have hb_xx := hb_xx.mono hx128.1
            have hb_yy := hb_yy.mono hx128.1
            have hb_zz := hb_zz.mono hx128.1
            have hO91 := hx128.2 _ _ hO91 (jnot_of rfl)
            have hK91 := hK91.mono hx128.1
            have hA81 := hx128.2 _ _ hA81 (jnot_of rfl)
            have hA103 := hx128.2 _ _ hA103 (jnot_of rfl)
            have hA115 := hx128.2 _ _ hA115 (jnot_of rfl)
            · refine Jz_iconst 1 dX3_lay_131 (by decide) (fun y131 he131 => ?_)
              exact J_ret (r := some (.int _)) dX3_lay_132 ⟨rfl, _, rfl, (nar_b (by (try simp only [he131.eq, true_and, and_true]) <;> omega) (by (try simp only [he131.eq, true_and, and_true]) <;> omega))⟩ (⟨⟨hW, he, ⟨_, rfl, (by (try simp only [he131.eq, true_and, and_true]) <;> omega), (by (try simp only [he131.eq, true_and, and_true]) <;> omega), (by (try simp only [he131.eq, true_and, and_true]) <;> omega)⟩⟩, ⟨G81, hA81, hp81 (by omega), ho81⟩, ⟨G103, hA103, (by rw [show n.toInt.toNat + 1 = (n.toInt + 1).toNat by omega, hp103 (by omega), he33.eq]), (fun j hj => ho103 j (by omega))⟩, ⟨G115, hA115, (by rw [show n.toInt.toNat + 1 = (n.toInt + 1).toNat by omega, hp115 (by omega), he55.eq]), (fun j hj => ho115 j (by omega))⟩, ⟨G128, hA128, (by rw [show n.toInt.toNat + 1 = (n.toInt + 1).toNat by omega, hp128 (by omega), he69.eq]), (fun j hj => ho128 j (by omega))⟩, hfp, ⟨_, ⟨_, hO91, hS91⟩, (by (try simp only [he90.eq, true_and, and_true]) <;> omega)⟩, ⟨_, ⟨_, hO91, hF91_0⟩, (by omega)⟩, ⟨_, ⟨_, hO91, hF91_5⟩, (by omega)⟩⟩)
    · have q16_1 := hI13_1.of (by omega)
      refine Jz_iconst 0 dX3_lay_19 (by decide) (fun y19 he19 => ?_)
      exact False.elim (by first | omega | (obtain ⟨j, h1, h2⟩ := hI13_1.of (by omega); exact hp14 j h1 h2))
set_option maxRecDepth 100000 in
set_option maxHeartbeats 8000000 in
theorem w_X3_drop_z {tS : jTS} (d : Nat) (V0 : jH) (a0 : Nat) (x1 : Int32) (M : Int32) (g : Int32) (n : Int32) (hd : 1 ≤ d) (hW : WT V0) (ha0 : jis V0 (.inr 1) a0) (hf_M : jfI V0 a0 1 0 M) (hf_g : jfI V0 a0 1 5 g) (hf_n : jfI V0 a0 1 6 n) (hp0 : 0 ≤ x1.toInt) (hp1 : x1.toInt ≤ n.toInt) : jTot tS mX3_drop d [.ref a0, .int x1] V0 0 0 (fun r V => (jPost [.inr 1] V0 rV) r V ∧ jfp [a0] V0 V ∧ (∃ M2 : Int32, jfI V a0 1 0 M2 ∧ (M2.toInt = M.toInt)) ∧ (∃ g2 : Int32, jfI V a0 1 5 g2 ∧ (g2.toInt = g.toInt)) ∧ (∃ n2 : Int32, jfI V a0 1 6 n2 ∧ (n2.toInt = n.toInt - x1.toInt))) := by
  refine jTot.of_J [some (.ref a0), some (.int x1)] moX3_drop (Nat.le_of_ble_eq_true rfl) rfl ?_
  have hrx1 := j_rng x1
  have he : jeff [.inr 1] V0 V0 := jeff.refl _ _
  have hfp : jfp [a0] V0 V0 := jfp.rf
  obtain ⟨fs_a0, hO_a0, hK_a0⟩ := WT_obj hW id ha0
  have hF_M := hf_M.get hO_a0
  have hrM : 0 ≤ M.toInt ∧ M.toInt ≤ 120 := jok_rngI hK_a0 rfl hF_M
  have hF_g := hf_g.get hO_a0
  have hrg : (-2147483648) ≤ g.toInt ∧ g.toInt ≤ 2147483647 := jok_rngI hK_a0 rfl hF_g
  have hF_n := hf_n.get hO_a0
  have hrn : 0 ≤ n.toInt ∧ n.toInt ≤ 120 := jok_rngI hK_a0 rfl hF_n
  refine J_aload_n dX3_drop_0 rfl ?_
  refine Jz_iconst 0 dX3_drop_1 (by decide) (fun y1 he1 => ?_)
  refine J_aload_n dX3_drop_2 rfl ?_
  refine J_get jf_X3_15 dX3_drop_3 hO_a0 hF_n ?_
  refine Jz_iconst 0 dX3_drop_6 (by decide) (fun y6 he6 => ?_)
  refine J_iload_n dX3_drop_7 rfl ?_
  refine J_mmax jw_ml_X3_24 dX3_drop_8 (by omega) (Nat.le_of_ble_eq_true rfl) ?_
  have hz8 : jEq (if y6 < x1 then x1 else y6).toInt (x1.toInt) := by have q := jmaxi (x := y6) (y := x1) he6 jEq.rf; exact (show (if y6 < x1 then x1 else y6).toInt = x1.toInt by omega)
  generalize (if y6 < x1 then x1 else y6) = y8 at hz8 ⊢
  refine Jz_isub jEq.rf hz8 dX3_drop_11 (by omega) (by omega) (fun y11 he11 => ?_)
  refine J_mmax jw_ml_X3_24 dX3_drop_12 (by omega) (Nat.le_of_ble_eq_true rfl) ?_
  have hz12 : jEq (if y1 < y11 then y11 else y1).toInt (n.toInt - x1.toInt) := by have q := jmaxi (x := y1) (y := y11) he1 he11; exact (show (if y1 < y11 then y11 else y1).toInt = n.toInt - x1.toInt by omega)
  generalize (if y1 < y11 then y11 else y1) = y12 at hz12 ⊢
  refine Jz_putI hO_a0 hW id rfl jf_X3_15 jt_X3_6 hz12 dX3_drop_15 (by omega) (by omega) (fun _ _ => ⟨rfl, rfl⟩) (fun V15 fs15 hW hx15 hO15 hS15 hT15 hB15 => ?_)
  have hK15 : jokO _ (jFs 1) fs15 := hW _ _ id hO15
  have hF15_0 := (hT15 0 (by decide)).trans hF_M
  have hF15_5 := (hT15 5 (by decide)).trans hF_g
  have he := he.trans (hx15.sub (jsub_of rfl))
  have hfp := hfp.trans (jfp.one hB15 List.mem_cons_self)
  have ha0 := ha0.mono hx15.1
  exact J_ret (r := none) dX3_drop_18 ⟨rfl, rfl⟩ (⟨⟨hW, he, rfl⟩, hfp, ⟨_, ⟨_, hO15, hF15_0⟩, (by omega)⟩, ⟨_, ⟨_, hO15, hF15_5⟩, (by omega)⟩, ⟨_, ⟨_, hO15, hS15⟩, (by (try simp only [hz12.eq, true_and, and_true]) <;> omega)⟩⟩)
set_option maxRecDepth 100000 in
set_option maxHeartbeats 8000000 in
theorem w_X3_direction_z {tS : jTS} (d : Nat) (V0 : jH) {ln : Nat} (a0 : Nat) (x1 : Int32) (s : Nat) (S : Nat → Int32) (hd : 1 ≤ d) (hW : WT V0) (ha0 : jis V0 (.inr 1) a0) (hr_s : jfR V0 a0 1 1 s) (ha_S : V0 s = some (.inl (6, ln, .inl S))) (hp0 : 0 ≤ x1.toInt) (hp1 : x1.toInt < (ln : Int)) (hp2 : (ln : Int) ≤ 120) : jTot tS mX3_direction d [.ref a0, .int x1] V0 0 0 (fun r V => (fun r _ => ∃ y : Int32, r = some (.int y) ∧ ((-2147483648) ≤ y.toInt) ∧ (y.toInt ≤ 2147483647) ∧ (y.toInt = (S x1.toInt.toNat).toInt)) r V ∧ V = V0) := by
  refine jTot.of_J [some (.ref a0), some (.int x1)] moX3_direction (Nat.le_of_ble_eq_true rfl) rfl ?_
  have hrx1 := j_rng x1
  have he : jeff [] V0 V0 := jeff.refl _ _
  obtain ⟨fs_a0, hO_a0, hK_a0⟩ := WT_obj hW id ha0
  have hF_s := hr_s.get hO_a0
  obtain ⟨w_s, hFq_s, b_s, hbq_s, hb_s⟩ := hK_a0.2 1 (.inr (some (.inl 6))) rfl
  cases hF_s.symm.trans (hFq_s.trans (congrArg some hbq_s))
  obtain ⟨hN_S, hv_S⟩ := WT_rngI (r := ((-2147483648), 2147483647)) hW id rfl ha_S
  clear hN_S
  refine J_aload_n dX3_direction_0 rfl ?_
  refine J_get jf_X3_30 dX3_direction_1 hO_a0 hF_s ?_
  refine J_iload_n dX3_direction_4 rfl ?_
  refine J_callSN2 moX6_cell (host := "WalkGrounds") (List.mem_of_getElem? (i := 0) rfl) jw_st_X6_cell dX3_direction_5 (w_X6_cell_x (d - 1) _ s x1 ha_S (WT_rngI (r := (-2147483648, 2147483647)) hW id rfl ha_S).1 rfl (by omega) (by omega)) (by omega) (Nat.zero_le _) (Nat.zero_le _) (Nat.le_of_ble_eq_true rfl) (fun r5 V5 h5 => ?_)
  obtain ⟨⟨y5, rfl, hf5⟩, hE5⟩ := h5
  have hE5 := hE5.symm
  subst hE5
  have hz5 : jEq y5.toInt (S (x1.toInt).toNat).toInt := by rw [← hf5]; rfl
  clear hf5
  · exact J_ret (r := some (.int _)) dX3_direction_8 ⟨rfl, _, rfl, rfl⟩ (⟨⟨_, rfl, (j_rng _).1, (j_rng _).2, (by (try simp only [hz5.eq, true_and, and_true]) <;> omega)⟩, rfl⟩)
set_option maxRecDepth 100000 in
set_option maxHeartbeats 8000000 in
theorem w_X6_step_out {tS : jTS} (d : Nat) (V0 : jH) (a0 : Nat) (x1 : Int32) (x2 : Int32) (k : Int32) (md : Nat) (hd : 4 ≤ d) (hW : WT V0) (ha0 : jis V0 (.inr 4) a0) (hf_k : jfI V0 a0 4 1 k) (hr_md : jfR V0 a0 4 0 md) (hp0 : ¬ (0 ≤ x1.toInt ∧ x1.toInt < k.toInt)) : jTot tS mX6_step d [.ref a0, .int x1, .int x2] V0 0 0 (fun r V => (fun r _ => ∃ y : Int32, r = some (.int y) ∧ ((-2147483648) ≤ y.toInt) ∧ (y.toInt ≤ 2147483647) ∧ (y.toInt = -2)) r V ∧ V = V0) := by
  refine jTot.of_J [some (.ref a0), some (.int x1), some (.int x2), none] moX6_step (Nat.le_of_ble_eq_true rfl) rfl ?_
  have hrx1 := j_rng x1
  have hrx2 := j_rng x2
  have he : jeff [] V0 V0 := jeff.refl _ _
  obtain ⟨fs_a0, hO_a0, hK_a0⟩ := WT_obj hW id ha0
  have hF_k := hf_k.get hO_a0
  have hrk : 0 ≤ k.toInt ∧ k.toInt ≤ 16 := jok_rngI hK_a0 rfl hF_k
  have hF_md := hr_md.get hO_a0
  obtain ⟨w_md, hFq_md, b_md, hbq_md, hb_md⟩ := hK_a0.2 0 (.inr (some (.inl 4))) rfl
  cases hF_md.symm.trans (hFq_md.trans (congrArg some hbq_md))
  refine J_aload_n dX6_step_0 rfl ?_
  refine J_iload_n dX6_step_1 rfl ?_
  refine Jw_callV1 (q9 := (RX6, TX6, 7)) moX6_rowOf jw_ml_X6_55 jw_im_X6_rowOf jw_se_X6_rowOf ha0 rfl rfl dX6_step_2 (w_X6_rowOf_out (d - 1) _ a0 x1 hO_a0 hF_k (by omega)) (by omega) (Nat.zero_le _) (Nat.zero_le _) (Nat.le_of_ble_eq_true rfl) (fun r2 V2 h2 => ?_)
  obtain ⟨rfl, hE2⟩ := h2
  have hE2 := hE2.symm
  subst hE2
  · refine J_astore_nN dX6_step_5 rfl (by decide) ?_
    refine J_aload_nN dX6_step_6 rfl ?_
    refine J_ifnullN (tgt := 21) dX6_step_7 (by decide) ?_
    refine Jz_bipush (-2) dX6_step_21 (by decide) (fun y21 he21 => ?_)
    exact J_ret (r := some (.int _)) dX6_step_23 ⟨rfl, _, rfl, rfl⟩ (⟨⟨_, rfl, (j_rng _).1, (j_rng _).2, (by (try simp only [he21.eq, true_and, and_true]) <;> omega)⟩, rfl⟩)
set_option maxRecDepth 100000 in
set_option maxHeartbeats 8000000 in
theorem w_X6_back_out {tS : jTS} (d : Nat) (V0 : jH) (a0 : Nat) (x1 : Int32) (x2 : Int32) (k : Int32) (md : Nat) (hd : 2 ≤ d) (hW : WT V0) (ha0 : jis V0 (.inr 4) a0) (hf_k : jfI V0 a0 4 1 k) (hr_md : jfR V0 a0 4 0 md) (hp0 : ¬ (0 ≤ x1.toInt ∧ x1.toInt < k.toInt)) : jTot tS mX6_back d [.ref a0, .int x1, .int x2] V0 0 0 (fun r V => (fun r _ => ∃ y : Int32, r = some (.int y) ∧ ((-2147483648) ≤ y.toInt) ∧ (y.toInt ≤ 2147483647) ∧ (y.toInt = -2)) r V ∧ V = V0) := by
  refine jTot.of_J [some (.ref a0), some (.int x1), some (.int x2), none] moX6_back (Nat.le_of_ble_eq_true rfl) rfl ?_
  have hrx1 := j_rng x1
  have hrx2 := j_rng x2
  have he : jeff [] V0 V0 := jeff.refl _ _
  obtain ⟨fs_a0, hO_a0, hK_a0⟩ := WT_obj hW id ha0
  have hF_k := hf_k.get hO_a0
  have hrk : 0 ≤ k.toInt ∧ k.toInt ≤ 16 := jok_rngI hK_a0 rfl hF_k
  have hF_md := hr_md.get hO_a0
  obtain ⟨w_md, hFq_md, b_md, hbq_md, hb_md⟩ := hK_a0.2 0 (.inr (some (.inl 4))) rfl
  cases hF_md.symm.trans (hFq_md.trans (congrArg some hbq_md))
  refine J_aload_n dX6_back_0 rfl ?_
  refine J_iload_n dX6_back_1 rfl ?_
  refine Jw_callV1 (q9 := (RX6, TX6, 7)) moX6_rowOf jw_ml_X6_55 jw_im_X6_rowOf jw_se_X6_rowOf ha0 rfl rfl dX6_back_2 (w_X6_rowOf_out (d - 1) _ a0 x1 hO_a0 hF_k (by omega)) (by omega) (Nat.zero_le _) (Nat.zero_le _) (Nat.le_of_ble_eq_true rfl) (fun r2 V2 h2 => ?_)
  obtain ⟨rfl, hE2⟩ := h2
  have hE2 := hE2.symm
  subst hE2
  · refine J_astore_nN dX6_back_5 rfl (by decide) ?_
    refine J_aload_nN dX6_back_6 rfl ?_
    refine J_ifnullN (tgt := 22) dX6_back_7 (by decide) ?_
    refine Jz_bipush (-2) dX6_back_22 (by decide) (fun y22 he22 => ?_)
    exact J_ret (r := some (.int _)) dX6_back_24 ⟨rfl, _, rfl, rfl⟩ (⟨⟨_, rfl, (j_rng _).1, (j_rng _).2, (by (try simp only [he22.eq, true_and, and_true]) <;> omega)⟩, rfl⟩)
set_option maxRecDepth 100000 in
set_option maxHeartbeats 8000000 in
theorem w_X6_pivot_out {tS : jTS} (d : Nat) (V0 : jH) (a0 : Nat) (x1 : Int32) (x2 : Int32) (x3 : Int32) (k : Int32) (md : Nat) (hd : 4 ≤ d) (hW : WT V0) (ha0 : jis V0 (.inr 4) a0) (hf_k : jfI V0 a0 4 1 k) (hr_md : jfR V0 a0 4 0 md) (hp0 : ¬ (0 ≤ x1.toInt ∧ x1.toInt < k.toInt)) : jTot tS mX6_pivot d [.ref a0, .int x1, .int x2, .int x3] V0 0 0 (fun r V => (fun r _ => ∃ y : Int32, r = some (.int y) ∧ ((-2147483648) ≤ y.toInt) ∧ (y.toInt ≤ 2147483647) ∧ (y.toInt = -2)) r V ∧ V = V0) := by
  refine jTot.of_J [some (.ref a0), some (.int x1), some (.int x2), some (.int x3), none, none, none] moX6_pivot (Nat.le_of_ble_eq_true rfl) rfl ?_
  have hrx1 := j_rng x1
  have hrx2 := j_rng x2
  have hrx3 := j_rng x3
  have he : jeff [] V0 V0 := jeff.refl _ _
  obtain ⟨fs_a0, hO_a0, hK_a0⟩ := WT_obj hW id ha0
  have hF_k := hf_k.get hO_a0
  have hrk : 0 ≤ k.toInt ∧ k.toInt ≤ 16 := jok_rngI hK_a0 rfl hF_k
  have hF_md := hr_md.get hO_a0
  obtain ⟨w_md, hFq_md, b_md, hbq_md, hb_md⟩ := hK_a0.2 0 (.inr (some (.inl 4))) rfl
  cases hF_md.symm.trans (hFq_md.trans (congrArg some hbq_md))
  refine J_aload_n dX6_pivot_0 rfl ?_
  refine J_iload_n dX6_pivot_1 rfl ?_
  refine Jw_callV1 (q9 := (RX6, TX6, 7)) moX6_rowOf jw_ml_X6_55 jw_im_X6_rowOf jw_se_X6_rowOf ha0 rfl rfl dX6_pivot_2 (w_X6_rowOf_out (d - 1) _ a0 x1 hO_a0 hF_k (by omega)) (by omega) (Nat.zero_le _) (Nat.zero_le _) (Nat.le_of_ble_eq_true rfl) (fun r2 V2 h2 => ?_)
  obtain ⟨rfl, hE2⟩ := h2
  have hE2 := hE2.symm
  subst hE2
  · refine J_astoreN dX6_pivot_5 rfl (by decide) ?_
    refine J_aloadN dX6_pivot_7 rfl ?_
    refine J_ifnullN (tgt := 37) dX6_pivot_9 (by decide) ?_
    refine Jz_bipush (-2) dX6_pivot_37 (by decide) (fun y37 he37 => ?_)
    exact J_ret (r := some (.int _)) dX6_pivot_39 ⟨rfl, _, rfl, rfl⟩ (⟨⟨_, rfl, (j_rng _).1, (j_rng _).2, (by (try simp only [he37.eq, true_and, and_true]) <;> omega)⟩, rfl⟩)
set_option maxRecDepth 100000 in
set_option maxHeartbeats 8000000 in
theorem w_X6_turnBack_out {tS : jTS} (d : Nat) (V0 : jH) (a0 : Nat) (x1 : Int32) (k : Int32) (md : Nat) (hd : 4 ≤ d) (hW : WT V0) (ha0 : jis V0 (.inr 4) a0) (hf_k : jfI V0 a0 4 1 k) (hr_md : jfR V0 a0 4 0 md) (hp0 : ¬ (0 ≤ x1.toInt ∧ x1.toInt < k.toInt)) : jTot tS mX6_turnBack d [.ref a0, .int x1] V0 0 0 (fun r V => (fun r _ => ∃ y : Int32, r = some (.int y) ∧ ((-2147483648) ≤ y.toInt) ∧ (y.toInt ≤ 2147483647) ∧ (y.toInt = -2)) r V ∧ V = V0) := by
  refine jTot.of_J [some (.ref a0), some (.int x1), none, none] moX6_turnBack (Nat.le_of_ble_eq_true rfl) rfl ?_
  have hrx1 := j_rng x1
  have he : jeff [] V0 V0 := jeff.refl _ _
  obtain ⟨fs_a0, hO_a0, hK_a0⟩ := WT_obj hW id ha0
  have hF_k := hf_k.get hO_a0
  have hrk : 0 ≤ k.toInt ∧ k.toInt ≤ 16 := jok_rngI hK_a0 rfl hF_k
  have hF_md := hr_md.get hO_a0
  obtain ⟨w_md, hFq_md, b_md, hbq_md, hb_md⟩ := hK_a0.2 0 (.inr (some (.inl 4))) rfl
  cases hF_md.symm.trans (hFq_md.trans (congrArg some hbq_md))
  refine J_aload_n dX6_turnBack_0 rfl ?_
  refine J_iload_n dX6_turnBack_1 rfl ?_
  refine Jw_callV1 (q9 := (RX6, TX6, 7)) moX6_rowOf jw_ml_X6_55 jw_im_X6_rowOf jw_se_X6_rowOf ha0 rfl rfl dX6_turnBack_2 (w_X6_rowOf_out (d - 1) _ a0 x1 hO_a0 hF_k (by omega)) (by omega) (Nat.zero_le _) (Nat.zero_le _) (Nat.le_of_ble_eq_true rfl) (fun r2 V2 h2 => ?_)
  obtain ⟨rfl, hE2⟩ := h2
  have hE2 := hE2.symm
  subst hE2
  · refine J_astore_nN dX6_turnBack_5 rfl (by decide) ?_
    refine J_aload_nN dX6_turnBack_6 rfl ?_
    refine J_ifnonnullN dX6_turnBack_7 ?_
    refine Jz_bipush (-2) dX6_turnBack_10 (by decide) (fun y10 he10 => ?_)
    exact J_ret (r := some (.int _)) dX6_turnBack_12 ⟨rfl, _, rfl, rfl⟩ (⟨⟨_, rfl, (j_rng _).1, (j_rng _).2, (by (try simp only [he10.eq, true_and, and_true]) <;> omega)⟩, rfl⟩)
set_option maxRecDepth 100000 in
set_option maxHeartbeats 8000000 in
theorem w_X6_walk_zbad {tS : jTS} (d : Nat) (V0 : jH) (a0 : Nat) (x1 : Int32) (hd : 2 ≤ d) (hW : WT V0) (ha0 : jis V0 (.inr 4) a0) (hp0 : ¬ (0 ≤ x1.toInt ∧ x1.toInt ≤ 3)) : jTot tS mX6_walk d [.ref a0, .int x1] V0 0 0 (fun r V => (fun r _ => ∃ y : Int32, r = some (.int y) ∧ ((-2147483648) ≤ y.toInt) ∧ (y.toInt ≤ 2147483647) ∧ (y.toInt = -2)) r V ∧ V = V0) := by
  refine jTot.of_J [some (.ref a0), some (.int x1), none] moX6_walk (Nat.le_of_ble_eq_true rfl) rfl ?_
  have hrx1 := j_rng x1
  have he : jeff [] V0 V0 := jeff.refl _ _
  refine J_iload_n dX6_walk_0 rfl ?_
  refine J_callS1 moX0_isGround jw_ml_X6_46 jw_st_X0_isGround dX6_walk_1 (w_X0_isGround_z (d - 1) _ x1 (by omega)   ) (by omega) (Nat.zero_le _) (Nat.zero_le _) (Nat.le_of_ble_eq_true rfl) (fun r1 V1 h1 => ?_)
  obtain ⟨⟨y1, rfl, hl1, hh1, hP1_0⟩, hE1⟩ := h1
  have hE1 := hE1.symm
  subst hE1
  refine Jz_if_ne (tgt := 10) jEq.rf dX6_walk_4 (by decide) (fun c4 => ?_) (fun c4 => ?_)
  · exact False.elim (by omega)
  · refine Jz_bipush (-2) dX6_walk_7 (by decide) (fun y7 he7 => ?_)
    exact J_ret (r := some (.int _)) dX6_walk_9 ⟨rfl, _, rfl, rfl⟩ (⟨⟨_, rfl, (j_rng _).1, (j_rng _).2, (by (try simp only [he7.eq, true_and, and_true]) <;> omega)⟩, rfl⟩)
set_option maxRecDepth 100000 in
set_option maxHeartbeats 8000000 in
theorem w_X6_join_oo {tS : jTS} (d : Nat) (V0 : jH) (a0 : Nat) (x1 : Int32) (x2 : Int32) (k : Int32) (md : Nat) (hd : 4 ≤ d) (hW : WT V0) (ha0 : jis V0 (.inr 4) a0) (hf_k : jfI V0 a0 4 1 k) (hr_md : jfR V0 a0 4 0 md) (hp0 : ¬ (0 ≤ x1.toInt ∧ x1.toInt < k.toInt)) (hp1 : ¬ (0 ≤ x2.toInt ∧ x2.toInt < k.toInt)) : jTot tS mX6_join d [.ref a0, .int x1, .int x2] V0 0 0 (fun r V => (fun r _ => ∃ y : Int32, r = some (.int y) ∧ ((-2147483648) ≤ y.toInt) ∧ (y.toInt ≤ 2147483647) ∧ (y.toInt = -2)) r V ∧ V = V0) := by
  refine jTot.of_J [some (.ref a0), some (.int x1), some (.int x2), none, none, none] moX6_join (Nat.le_of_ble_eq_true rfl) rfl ?_
  have hrx1 := j_rng x1
  have hrx2 := j_rng x2
  have he : jeff [] V0 V0 := jeff.refl _ _
  obtain ⟨fs_a0, hO_a0, hK_a0⟩ := WT_obj hW id ha0
  have hF_k := hf_k.get hO_a0
  have hrk : 0 ≤ k.toInt ∧ k.toInt ≤ 16 := jok_rngI hK_a0 rfl hF_k
  have hF_md := hr_md.get hO_a0
  obtain ⟨w_md, hFq_md, b_md, hbq_md, hb_md⟩ := hK_a0.2 0 (.inr (some (.inl 4))) rfl
  cases hF_md.symm.trans (hFq_md.trans (congrArg some hbq_md))
  refine J_aload_n dX6_join_0 rfl ?_
  refine J_iload_n dX6_join_1 rfl ?_
  refine Jw_callV1 (q9 := (RX6, TX6, 7)) moX6_rowOf jw_ml_X6_55 jw_im_X6_rowOf jw_se_X6_rowOf ha0 rfl rfl dX6_join_2 (w_X6_rowOf_out (d - 1) _ a0 x1 hO_a0 hF_k (by omega)) (by omega) (Nat.zero_le _) (Nat.zero_le _) (Nat.le_of_ble_eq_true rfl) (fun r2 V2 h2 => ?_)
  obtain ⟨rfl, hE2⟩ := h2
  have hE2 := hE2.symm
  subst hE2
  · refine J_astore_nN dX6_join_5 rfl (by decide) ?_
    refine J_aload_n dX6_join_6 rfl ?_
    refine J_iload_n dX6_join_7 rfl ?_
    refine Jw_callV1 (q9 := (RX6, TX6, 7)) moX6_rowOf jw_ml_X6_55 jw_im_X6_rowOf jw_se_X6_rowOf ha0 rfl rfl dX6_join_8 (w_X6_rowOf_out (d - 1) _ a0 x2 hO_a0 hF_k (by omega)) (by omega) (Nat.zero_le _) (Nat.zero_le _) (Nat.le_of_ble_eq_true rfl) (fun r8 V8 h8 => ?_)
    obtain ⟨rfl, hE8⟩ := h8
    have hE8 := hE8.symm
    subst hE8
    · refine J_astoreN dX6_join_11 rfl (by decide) ?_
      refine J_aload_nN dX6_join_13 rfl ?_
      refine J_ifnullN (tgt := 22) dX6_join_14 (by decide) ?_
      refine Jz_bipush (-2) dX6_join_22 (by decide) (fun y22 he22 => ?_)
      exact J_ret (r := some (.int _)) dX6_join_24 ⟨rfl, _, rfl, rfl⟩ (⟨⟨_, rfl, (j_rng _).1, (j_rng _).2, (by (try simp only [he22.eq, true_and, and_true]) <;> omega)⟩, rfl⟩)
set_option maxRecDepth 100000 in
set_option maxHeartbeats 8000000 in
theorem w_X6_place_out {tS : jTS} (d : Nat) (V0 : jH) (a0 : Nat) (x1 : Int32) (x2 : Int32) (x3 : Int32) (k : Int32) (md : Nat) (hd : 1 ≤ d) (hW : WT V0) (ha0 : jis V0 (.inr 4) a0) (hf_k : jfI V0 a0 4 1 k) (hr_md : jfR V0 a0 4 0 md) (hp0 : ¬ (0 ≤ x1.toInt ∧ x1.toInt < k.toInt)) : jTot tS mX6_place d [.ref a0, .int x1, .int x2, .int x3] V0 0 0 (fun r V => (fun r _ => ∃ y : Int32, r = some (.int y) ∧ ((-2147483648) ≤ y.toInt) ∧ (y.toInt ≤ 2147483647) ∧ (y.toInt = -1000)) r V ∧ V = V0) := by
  refine jTot.of_J [some (.ref a0), some (.int x1), some (.int x2), some (.int x3), none] moX6_place (Nat.le_of_ble_eq_true rfl) rfl ?_
  have hrx1 := j_rng x1
  have hrx2 := j_rng x2
  have hrx3 := j_rng x3
  have he : jeff [] V0 V0 := jeff.refl _ _
  obtain ⟨fs_a0, hO_a0, hK_a0⟩ := WT_obj hW id ha0
  have hF_k := hf_k.get hO_a0
  have hrk : 0 ≤ k.toInt ∧ k.toInt ≤ 16 := jok_rngI hK_a0 rfl hF_k
  have hF_md := hr_md.get hO_a0
  obtain ⟨w_md, hFq_md, b_md, hbq_md, hb_md⟩ := hK_a0.2 0 (.inr (some (.inl 4))) rfl
  cases hF_md.symm.trans (hFq_md.trans (congrArg some hbq_md))
  refine J_aload_n dX6_place_0 rfl ?_
  refine J_iload_n dX6_place_1 rfl ?_
  refine Jw_callV1 (q9 := (RX6, TX6, 7)) moX6_rowOf jw_ml_X6_55 jw_im_X6_rowOf jw_se_X6_rowOf ha0 rfl rfl dX6_place_2 (w_X6_rowOf_out (d - 1) _ a0 x1 hO_a0 hF_k (by omega)) (by omega) (Nat.zero_le _) (Nat.zero_le _) (Nat.le_of_ble_eq_true rfl) (fun r2 V2 h2 => ?_)
  obtain ⟨rfl, hE2⟩ := h2
  have hE2 := hE2.symm
  subst hE2
  · refine J_astoreN dX6_place_5 rfl (by decide) ?_
    refine J_aloadN dX6_place_7 rfl ?_
    refine J_ifnullN (tgt := 25) dX6_place_9 (by decide) ?_
    refine Jz_sipush (-1000) dX6_place_25 (by decide) (fun y25 he25 => ?_)
    exact J_ret (r := some (.int _)) dX6_place_28 ⟨rfl, _, rfl, rfl⟩ (⟨⟨_, rfl, (j_rng _).1, (j_rng _).2, (by (try simp only [he25.eq, true_and, and_true]) <;> omega)⟩, rfl⟩)
set_option maxRecDepth 100000 in
set_option maxHeartbeats 8000000 in
theorem w_X3_digestOnto_z {tS : jTS} (d : Nat) (V0 : jH) {ln : Nat} (a0 : Nat) (x1 : Int64) (M : Int32) (g : Int32) (n : Int32) (s : Nat) (xx : Nat) (yy : Nat) (zz : Nat) (S : Nat → Int32) (X : Nat → Int32) (Y : Nat → Int32) (Z : Nat → Int32) (hd : 2 ≤ d) (hW : WT V0) (ha0 : jis V0 (.inr 1) a0) (hf_M : jfI V0 a0 1 0 M) (hf_g : jfI V0 a0 1 5 g) (hf_n : jfI V0 a0 1 6 n) (hr_s : jfR V0 a0 1 1 s) (hr_xx : jfR V0 a0 1 2 xx) (hr_yy : jfR V0 a0 1 3 yy) (hr_zz : jfR V0 a0 1 4 zz) (ha_S : V0 s = some (.inl (6, ln, .inl S))) (ha_X : V0 xx = some (.inl (34, ln + 1, .inl X))) (ha_Y : V0 yy = some (.inl (35, ln + 1, .inl Y))) (ha_Z : V0 zz = some (.inl (36, ln + 1, .inl Z))) (hp0 : M.toInt = (ln : Int)) (hp1 : (ln : Int) ≤ 120) (hp2 : n.toInt ≤ M.toInt) : jTot tS mX3_digestOnto d [.ref a0, .long x1] V0 0 0 (fun r V => (fun r _ => ∃ y : Int64, r = some (.long y) ∧ (y = jdg S n.toInt.toNat (31 * x1 + g.toInt64))) r V ∧ V = V0) := by
  refine jTot.of_J [some (.ref a0), some (.long x1), none, none, none, none] moX3_digestOnto (Nat.le_of_ble_eq_true rfl) rfl ?_
  have he : jeff [] V0 V0 := jeff.refl _ _
  obtain ⟨fs_a0, hO_a0, hK_a0⟩ := WT_obj hW id ha0
  have hF_M := hf_M.get hO_a0
  have hrM : 0 ≤ M.toInt ∧ M.toInt ≤ 120 := jok_rngI hK_a0 rfl hF_M
  have hF_g := hf_g.get hO_a0
  have hrg : (-2147483648) ≤ g.toInt ∧ g.toInt ≤ 2147483647 := jok_rngI hK_a0 rfl hF_g
  have hF_n := hf_n.get hO_a0
  have hrn : 0 ≤ n.toInt ∧ n.toInt ≤ 120 := jok_rngI hK_a0 rfl hF_n
  have hF_s := hr_s.get hO_a0
  obtain ⟨w_s, hFq_s, b_s, hbq_s, hb_s⟩ := hK_a0.2 1 (.inr (some (.inl 6))) rfl
  cases hF_s.symm.trans (hFq_s.trans (congrArg some hbq_s))
  have hF_xx := hr_xx.get hO_a0
  obtain ⟨w_xx, hFq_xx, b_xx, hbq_xx, hb_xx⟩ := hK_a0.2 2 (.inr (some (.inl 34))) rfl
  cases hF_xx.symm.trans (hFq_xx.trans (congrArg some hbq_xx))
  have hF_yy := hr_yy.get hO_a0
  obtain ⟨w_yy, hFq_yy, b_yy, hbq_yy, hb_yy⟩ := hK_a0.2 3 (.inr (some (.inl 35))) rfl
  cases hF_yy.symm.trans (hFq_yy.trans (congrArg some hbq_yy))
  have hF_zz := hr_zz.get hO_a0
  obtain ⟨w_zz, hFq_zz, b_zz, hbq_zz, hb_zz⟩ := hK_a0.2 4 (.inr (some (.inl 36))) rfl
  cases hF_zz.symm.trans (hFq_zz.trans (congrArg some hbq_zz))
  obtain ⟨hN_S, hv_S⟩ := WT_rngI (r := ((-2147483648), 2147483647)) hW id rfl ha_S
  clear hN_S
  obtain ⟨hN_X, hv_X⟩ := WT_rngI (r := ((-2147483648), 2147483647)) hW id rfl ha_X
  clear hN_X
  obtain ⟨hN_Y, hv_Y⟩ := WT_rngI (r := ((-2147483648), 2147483647)) hW id rfl ha_Y
  clear hN_Y
  obtain ⟨hN_Z, hv_Z⟩ := WT_rngI (r := ((-2147483648), 2147483647)) hW id rfl ha_Z
  clear hN_Z
  refine J_ldc2 jw_k_X3_95 dX3_digestOnto_0 ?_
  refine J_lload_n dX3_digestOnto_3 rfl ?_
  refine J_lmul dX3_digestOnto_4 ?_
  refine J_aload_n dX3_digestOnto_5 rfl ?_
  refine J_get jf_X3_9 dX3_digestOnto_6 hO_a0 hF_g ?_
  refine J_i2l dX3_digestOnto_9 rfl ?_
  refine J_ladd dX3_digestOnto_10 ?_
  refine J_lstore_n dX3_digestOnto_11 rfl (by decide) ?_
  refine Jz_iconst 0 dX3_digestOnto_12 (by decide) (fun y12 he12 => ?_)
  refine J_istore dX3_digestOnto_13 rfl (by decide) ?_
  have L15 : ∀ (N : Nat) (i3n15 : Int64) (i5n15 : Int32), (0 ≤ i5n15.toInt ∧ i5n15.toInt ≤ n.toInt) → (i3n15 = jdg S i5n15.toInt.toNat (31 * x1 + g.toInt64)) → (300 - i5n15.toInt).toNat < N → J tS mX3_digestOnto d 15 [some (.ref a0), some (.long x1), none, some (.long i3n15), none, some (.int i5n15)] [] V0 0 0 (fun r V => (fun r _ => ∃ y : Int64, r = some (.long y) ∧ (y = jdg S n.toInt.toNat (31 * x1 + g.toInt64))) r V ∧ V = V0) := by
    intro N
    induction N with
    | zero => intro i3n15 i5n15  hi5 hh hm; exact absurd hm (Nat.not_lt_zero _)
    | succ N ih =>
      intro i3n15 i5n15  hi5 hh hm
      have ih15 := ih
      have hri5 := j_rng i5n15
      refine J_iload dX3_digestOnto_15 rfl ?_
      refine J_aload_n dX3_digestOnto_17 rfl ?_
      refine J_get jf_X3_15 dX3_digestOnto_18 hO_a0 hF_n ?_
      refine Jz_icmp_ge (tgt := 44) jEq.rf jEq.rf dX3_digestOnto_21 (by decide) (fun c21 => ?_) (fun c21 => ?_)
      · refine J_lload_n dX3_digestOnto_44 rfl ?_
        exact J_ret (r := some (.long _)) dX3_digestOnto_45 ⟨rfl, rfl⟩ (⟨⟨_, rfl, (by rw [show n.toInt.toNat = i5n15.toInt.toNat by omega]; exact hh)⟩, rfl⟩)
      · refine J_ldc2 jw_k_X3_95 dX3_digestOnto_24 ?_
        refine J_lload_n dX3_digestOnto_27 rfl ?_
        refine J_lmul dX3_digestOnto_28 ?_
        refine J_aload_n dX3_digestOnto_29 rfl ?_
        refine J_iload dX3_digestOnto_30 rfl ?_
        refine Jw_callV1 (q9 := (RX3, TX3, 7)) moX3_direction jw_ml_X3_89 jw_im_X3_direction jw_se_X3_direction ha0 rfl rfl dX3_digestOnto_32 (w_X3_direction_z (d - 1) _ a0 i5n15 s S (by omega) hW  ha0 ⟨_, hO_a0, hF_s⟩ ha_S (by omega) (by omega) (by omega)) (by omega) (Nat.zero_le _) (Nat.zero_le _) (Nat.le_of_ble_eq_true rfl) (fun r32 V32 h32 => ?_)
        obtain ⟨⟨y32, rfl, hl32, hh32, hP32_0⟩, hE32⟩ := h32
        have hE32 := hE32.symm
        subst hE32
        clear hl32 hh32
        have hz32 : jEq y32.toInt ((S (i5n15.toInt).toNat).toInt) := hP32_0
        clear hP32_0
        refine J_i2l dX3_digestOnto_35 rfl ?_
        refine J_ladd dX3_digestOnto_36 ?_
        refine J_lstore_n dX3_digestOnto_37 rfl (by decide) ?_
        refine Jz_iinc 1 dX3_digestOnto_38 rfl rfl (by decide) jEq.rf (by decide) (by omega) (by omega) (fun y38 he38 => ?_)
        refine J_goto (tgt := 15) dX3_digestOnto_41 (by decide) ?_
        refine J.mask [true, true, false, true, false, true] ?_
        exact ih15  (((31 : Int64) * i3n15) + y32.toInt64) y38  (by (try simp only [he38.eq, true_and, and_true]) <;> omega) (by rw [he38.eq, show (i5n15.toInt + 1).toNat = i5n15.toInt.toNat + 1 by omega]; show _ = 31 * jdg S i5n15.toInt.toNat _ + (S i5n15.toInt.toNat).toInt64; rw [← hh, jI_inj.mp hz32.eq]) (by (try simp only [he38.eq, true_and, and_true]) <;> omega)
  refine J.mask [true, true, false, true, false, true] ?_
  exact L15 _  (((31 : Int64) * x1) + g.toInt64) y12    (by (try simp only [he12.eq, true_and, and_true]) <;> omega) (by rw [he12.eq]; rfl) (Nat.lt_succ_self _)
set_option maxRecDepth 100000 in
set_option maxHeartbeats 8000000 in
theorem w_X2_digestOnto_z {tS : jTS} (d : Nat) (V0 : jH) (a0 : Nat) (x1 : Int64) (w1 : Int32) (h1 : Int32) (op : Int64) (hd : 3 ≤ d) (hW : WT V0) (ha0 : jis V0 (.inr 0) a0) (hf_w1 : jfI V0 a0 0 1 w1) (hf_h1 : jfI V0 a0 0 2 h1) (hq_op : jfL V0 a0 0 3 op) (hp0 : 2 ≤ w1.toInt) (hp1 : w1.toInt ≤ 6) (hp2 : 2 ≤ h1.toInt) (hp3 : h1.toInt ≤ 6) : jTot tS mX2_digestOnto d [.ref a0, .long x1] V0 0 0 (fun r V => (fun r _ => ∃ y : Int64, r = some (.long y) ∧ (y = jdh (fun q : Nat => !jbt op (9 + q % w1.toInt.toNat + 8 * (q / w1.toInt.toNat))) (w1.toInt.toNat * h1.toInt.toNat) x1)) r V ∧ V = V0) := by
  refine jTot.of_J [some (.ref a0), some (.long x1), none, none, none, none, none] moX2_digestOnto (Nat.le_of_ble_eq_true rfl) rfl ?_
  have he : jeff [] V0 V0 := jeff.refl _ _
  obtain ⟨fs_a0, hO_a0, hK_a0⟩ := WT_obj hW id ha0
  have hF_w1 := hf_w1.get hO_a0
  have hrw1 : (-2147483648) ≤ w1.toInt ∧ w1.toInt ≤ 2147483647 := jok_rngI hK_a0 rfl hF_w1
  have hF_h1 := hf_h1.get hO_a0
  have hrh1 : (-2147483648) ≤ h1.toInt ∧ h1.toInt ≤ 2147483647 := jok_rngI hK_a0 rfl hF_h1
  have hF_op := hq_op.get hO_a0
  refine J_lload_n dX2_digestOnto_0 rfl ?_
  refine J_lstore_n dX2_digestOnto_1 rfl (by decide) ?_
  refine Jz_iconst 0 dX2_digestOnto_2 (by decide) (fun y2 he2 => ?_)
  refine J_istore dX2_digestOnto_3 rfl (by decide) ?_
  have L5 : ∀ (N : Nat) (i3n5 : Int64) (i5n5 : Int32), (0 ≤ i5n5.toInt ∧ i5n5.toInt ≤ h1.toInt) → (i3n5 = jdh (fun q : Nat => !jbt op (9 + q % w1.toInt.toNat + 8 * (q / w1.toInt.toNat))) (w1.toInt.toNat * i5n5.toInt.toNat) x1) → (300 - i5n5.toInt).toNat < N → J tS mX2_digestOnto d 5 [some (.ref a0), some (.long x1), none, some (.long i3n5), none, some (.int i5n5), none] [] V0 0 0 (fun r V => (fun r _ => ∃ y : Int64, r = some (.long y) ∧ (y = jdh (fun q : Nat => !jbt op (9 + q % w1.toInt.toNat + 8 * (q / w1.toInt.toNat))) (w1.toInt.toNat * h1.toInt.toNat) x1)) r V ∧ V = V0) := by
    intro N
    induction N with
    | zero => intro i3n5 i5n5  hi5 hh hm; exact absurd hm (Nat.not_lt_zero _)
    | succ N ih =>
      intro i3n5 i5n5  hi5 hh hm
      have ih5 := ih
      have hri5 := j_rng i5n5
      refine J_iload dX2_digestOnto_5 rfl ?_
      refine J_aload_n dX2_digestOnto_7 rfl ?_
      refine J_get jf_X2_19 dX2_digestOnto_8 hO_a0 hF_h1 ?_
      refine Jz_icmp_ge (tgt := 67) jEq.rf jEq.rf dX2_digestOnto_11 (by decide) (fun c11 => ?_) (fun c11 => ?_)
      · refine J_lload_n dX2_digestOnto_67 rfl ?_
        exact J_ret (r := some (.long _)) dX2_digestOnto_68 ⟨rfl, rfl⟩ (⟨⟨_, rfl, (by rw [show h1.toInt.toNat = i5n5.toInt.toNat by omega]; exact hh)⟩, rfl⟩)
      · refine Jz_iconst 0 dX2_digestOnto_14 (by decide) (fun y14 he14 => ?_)
        refine J_istore dX2_digestOnto_15 rfl (by decide) ?_
        have L17 : ∀ (N : Nat) (i3n17 : Int64) (i6n17 : Int32), (0 ≤ i6n17.toInt ∧ i6n17.toInt ≤ w1.toInt) → (i3n17 = jdh (fun q : Nat => !jbt op (9 + q % w1.toInt.toNat + 8 * (q / w1.toInt.toNat))) (w1.toInt.toNat * i5n5.toInt.toNat + i6n17.toInt.toNat) x1) → (300 - i6n17.toInt).toNat < N → J tS mX2_digestOnto d 17 [some (.ref a0), some (.long x1), none, some (.long i3n17), none, some (.int i5n5), some (.int i6n17)] [] V0 0 0 (fun r V => (fun r _ => ∃ y : Int64, r = some (.long y) ∧ (y = jdh (fun q : Nat => !jbt op (9 + q % w1.toInt.toNat + 8 * (q / w1.toInt.toNat))) (w1.toInt.toNat * h1.toInt.toNat) x1)) r V ∧ V = V0) := by
          intro N
          induction N with
          | zero => intro i3n17 i6n17  hi6 hh6 hm; exact absurd hm (Nat.not_lt_zero _)
          | succ N ih =>
            intro i3n17 i6n17  hi6 hh6 hm
            have ih17 := ih
            have hri6 := j_rng i6n17
            refine J_iload dX2_digestOnto_17 rfl ?_
            refine J_aload_n dX2_digestOnto_19 rfl ?_
            refine J_get jf_X2_15 dX2_digestOnto_20 hO_a0 hF_w1 ?_
            refine Jz_icmp_ge (tgt := 61) jEq.rf jEq.rf dX2_digestOnto_23 (by decide) (fun c23 => ?_) (fun c23 => ?_)
            · refine Jz_iinc 1 dX2_digestOnto_61 rfl rfl (by decide) jEq.rf (by decide) (by omega) (by omega) (fun y61 he61 => ?_)
              refine J_goto (tgt := 5) dX2_digestOnto_64 (by decide) ?_
              refine J.mask [true, true, false, true, false, true, false] ?_
              exact ih5  i3n17 y61  (by (try simp only [he61.eq, true_and, and_true]) <;> omega) (by rw [he61.eq, show (i5n5.toInt + 1).toNat = i5n5.toInt.toNat + 1 by omega, Nat.mul_add, Nat.mul_one, show w1.toInt.toNat = i6n17.toInt.toNat by omega] ; rw [show i6n17.toInt.toNat = w1.toInt.toNat by omega] ; rw [show w1.toInt.toNat * i5n5.toInt.toNat + w1.toInt.toNat = w1.toInt.toNat * i5n5.toInt.toNat + i6n17.toInt.toNat by omega]; exact hh6) (by (try simp only [he61.eq, true_and, and_true]) <;> omega)
            · refine J_aload_n dX2_digestOnto_26 rfl ?_
              refine J_iload dX2_digestOnto_27 rfl ?_
              refine J_iload dX2_digestOnto_29 rfl ?_
              refine Jw_callV2 (q9 := (RX2, TX2, 9)) moX2_isHole jw_ml_X2_79 jw_im_X2_isHole jw_se_X2_isHole ha0 rfl rfl dX2_digestOnto_31 (w_X2_isHole_z (d - 1) _ a0 i6n17 i5n5 op (by omega) hW  ha0 ⟨_, hO_a0, hF_op⟩ (by omega) (by omega) (by omega) (by omega)) (by omega) (Nat.zero_le _) (Nat.zero_le _) (Nat.le_of_ble_eq_true rfl) (fun r31 V31 h31 => ?_)
              obtain ⟨⟨y31, rfl, hl31, hh31, hI31_0, hI31_1⟩, hE31⟩ := h31
              have hE31 := hE31.symm
              subst hE31
              have hdm := jdivmod (w := w1.toInt.toNat) (x := i6n17.toInt.toNat) (y := i5n5.toInt.toNat) (by omega)
              have hnx : 9 + i6n17.toInt.toNat + 8 * i5n5.toInt.toNat = (9 + i6n17.toInt + 8 * i5n5.toInt).toNat := by omega
              have hml := Nat.mul_le_mul (show w1.toInt.toNat ≤ 6 by omega) (show i5n5.toInt.toNat ≤ 5 by omega)
              have hmc := jcell_nat2 (w := w1.toInt) (y := i5n5.toInt) (by omega) (by omega)
              refine Jz_if_eq (tgt := 55) jEq.rf dX2_digestOnto_34 (by decide) (fun c34 => ?_) (fun c34 => ?_)
              · have q34_1 := hI31_1.of (by omega)
                refine Jz_iinc 1 dX2_digestOnto_55 rfl rfl (by decide) jEq.rf (by decide) (by omega) (by omega) (fun y55 he55 => ?_)
                refine J_goto (tgt := 17) dX2_digestOnto_58 (by decide) ?_
                refine J.mask [true, true, false, true, false, true, true] ?_
                exact ih17  i3n17 y55  (by (try simp only [he55.eq, true_and, and_true]) <;> omega) (by rw [he55.eq, show (i6n17.toInt + 1).toNat = i6n17.toInt.toNat + 1 by omega, ← Nat.add_assoc, jdh_no (by rw [hdm.1, hdm.2, hnx, hI31_1.of (by omega)]; rfl)]; exact hh6) (by (try simp only [he55.eq, true_and, and_true]) <;> omega)
              · have q34_0 := hI31_0.of (by omega)
                refine J_ldc2 jw_k_X2_83 dX2_digestOnto_37 ?_
                refine J_lload_n dX2_digestOnto_40 rfl ?_
                refine J_lmul dX2_digestOnto_41 ?_
                refine J_iload dX2_digestOnto_42 rfl ?_
                refine J_aload_n dX2_digestOnto_44 rfl ?_
                refine J_get jf_X2_15 dX2_digestOnto_45 hO_a0 hF_w1 ?_
                refine J_iload dX2_digestOnto_48 rfl ?_
                refine Jz_imul jEq.rf jEq.rf dX2_digestOnto_50 (by omega) (by omega) (fun y50 he50 => ?_)
                refine Jz_iadd jEq.rf he50 dX2_digestOnto_51 (by omega) (by omega) (fun y51 he51 => ?_)
                refine J_i2l dX2_digestOnto_52 rfl ?_
                refine J_ladd dX2_digestOnto_53 ?_
                refine J_lstore_n dX2_digestOnto_54 rfl (by decide) ?_
                refine Jz_iinc 1 dX2_digestOnto_55 rfl rfl (by decide) jEq.rf (by decide) (by omega) (by omega) (fun y55 he55 => ?_)
                refine J_goto (tgt := 17) dX2_digestOnto_58 (by decide) ?_
                refine J.mask [true, true, false, true, false, true, true] ?_
                exact ih17  (((31 : Int64) * i3n17) + y51.toInt64) y55  (by (try simp only [he55.eq, true_and, and_true]) <;> omega) (by rw [he55.eq, show (i6n17.toInt + 1).toNat = i6n17.toInt.toNat + 1 by omega, ← Nat.add_assoc, jdh_yes (v := y51) (by rw [hdm.1, hdm.2, hnx, hI31_0.of (by omega)]; rfl) (by rw [he51.eq]; push_cast; omega) (by omega), ← hh6]) (by (try simp only [he55.eq, true_and, and_true]) <;> omega)
        refine J.mask [true, true, false, true, false, true, true] ?_
        exact L17 _  i3n5 y14    (by (try simp only [he14.eq, true_and, and_true]) <;> omega) (by rw [he14.eq]; exact hh) (Nat.lt_succ_self _)
  refine J.mask [true, true, false, true, false, true, false] ?_
  exact L5 _  x1 y2    (by (try simp only [he2.eq, true_and, and_true]) <;> omega) (by rw [he2.eq]; rfl) (Nat.lt_succ_self _)
set_option maxRecDepth 100000 in
set_option maxHeartbeats 8000000 in
theorem w_X6_digest_z {tS : jTS} (d : Nat) (V0 : jH) (a0 : Nat) (v1 : Int32) (md : Nat) (pl : Nat) (pw : Int32) (ph : Int32) (po : Int64) (f : Nat → Option Nat) (A : Nat → jad) (GA : Nat → Int32) (MN : Nat → Int32) (SP : Nat → Int32) (cn : Int32) (hd : 4 ≤ d) (hW : WT V0) (ha0 : jis V0 (.inr 4) a0) (hf_v1 : jfI V0 a0 4 1 v1) (hr_md : jfR V0 a0 4 0 md) (hr_pl : jfR V0 a0 4 6 pl) (hpw : jfI V0 pl 0 1 pw) (hph : jfI V0 pl 0 2 ph) (hpo : jfL V0 pl 0 3 po) (ha_f : V0 md = some (.inl (4, 16, .inr (.inr (.inr (.inr f)))))) (hrows : ∀ w : Nat, (w : Int) < v1.toInt → jrow1 V0 f A GA MN SP w) (hp0 : 2 ≤ pw.toInt) (hp1 : pw.toInt ≤ 6) (hp2 : 2 ≤ ph.toInt) (hp3 : ph.toInt ≤ 6) (hp4 : cn.toInt = ((jsum (fun n => (jbt po n).toNat) 64 : Nat) : Int)) : jTot tS mX6_digest d [.ref a0] V0 0 0 (fun r V => (fun r _ => ∃ y : Int64, r = some (.long y) ∧ (y = jdh (fun q : Nat => !jbt po (9 + q % pw.toInt.toNat + 8 * (q / pw.toInt.toNat))) (pw.toInt.toNat * ph.toInt.toNat) (jdw GA MN SP v1.toInt.toNat (jdg (jC4 v1 cn pw ph) 4 107)))) r V ∧ V = V0) := by
  refine jTot.of_J [some (.ref a0), none, none, none, none] moX6_digest (Nat.le_of_ble_eq_true rfl) rfl ?_
  have he : jeff [] V0 V0 := jeff.refl _ _
  obtain ⟨fs_a0, hO_a0, hK_a0⟩ := WT_obj hW id ha0
  have hF_v1 := hf_v1.get hO_a0
  have hrv1 : 0 ≤ v1.toInt ∧ v1.toInt ≤ 16 := jok_rngI hK_a0 rfl hF_v1
  have hF_md := hr_md.get hO_a0
  obtain ⟨w_md, hFq_md, b_md, hbq_md, hb_md⟩ := hK_a0.2 0 (.inr (some (.inl 4))) rfl
  cases hF_md.symm.trans (hFq_md.trans (congrArg some hbq_md))
  have hF_pl := hr_pl.get hO_a0
  obtain ⟨w_pl, hFq_pl, b_pl, hbq_pl, hb_pl⟩ := hK_a0.2 6 (.inr (some (.inr 0))) rfl
  cases hF_pl.symm.trans (hFq_pl.trans (congrArg some hbq_pl))
  obtain ⟨fsp, hOp, hKp⟩ := WT_obj hW id hb_pl
  have hFpw := hpw.get hOp
  have hFph := hph.get hOp
  have hFpo := hpo.get hOp
  refine J_ldc2 jw_k_X6_244 dX6_digest_0 ?_
  refine J_lstore_n dX6_digest_3 rfl (by decide) ?_
  refine Jz_iconst 0 dX6_digest_4 (by decide) (fun y4 he4 => ?_)
  refine J_istore_n dX6_digest_5 rfl (by decide) ?_
  have L6 : ∀ (N : Nat) (i1n6 : Int64) (i3n6 : Int32), (0 ≤ i3n6.toInt ∧ i3n6.toInt ≤ 4) → (i1n6 = jdg (jC4 v1 cn pw ph) i3n6.toInt.toNat 107) → (300 - i3n6.toInt).toNat < N → J tS mX6_digest d 6 [some (.ref a0), some (.long i1n6), none, some (.int i3n6), none] [] V0 0 0 (fun r V => (fun r _ => ∃ y : Int64, r = some (.long y) ∧ (y = jdh (fun q : Nat => !jbt po (9 + q % pw.toInt.toNat + 8 * (q / pw.toInt.toNat))) (pw.toInt.toNat * ph.toInt.toNat) (jdw GA MN SP v1.toInt.toNat (jdg (jC4 v1 cn pw ph) 4 107)))) r V ∧ V = V0) := by
    intro N
    induction N with
    | zero => intro i1n6 i3n6  hi3 hh hm; exact absurd hm (Nat.not_lt_zero _)
    | succ N ih =>
      intro i1n6 i3n6  hi3 hh hm
      have ih6 := ih
      have hri3 := j_rng i3n6
      refine J_iload_n dX6_digest_6 rfl ?_
      refine Jz_iconst 4 dX6_digest_7 (by decide) (fun y7 he7 => ?_)
      refine Jz_icmp_ge (tgt := 30) jEq.rf he7 dX6_digest_8 (by decide) (fun c8 => ?_) (fun c8 => ?_)
      · refine Jz_iconst 0 dX6_digest_30 (by decide) (fun y30 he30 => ?_)
        refine J_istore_n dX6_digest_31 rfl (by decide) ?_
        have L32 : ∀ (N : Nat) (i1n32 : Int64) (i3n32 : Int32), (0 ≤ i3n32.toInt ∧ i3n32.toInt ≤ v1.toInt) → (i1n32 = jdw GA MN SP i3n32.toInt.toNat (jdg (jC4 v1 cn pw ph) 4 107)) → (300 - i3n32.toInt).toNat < N → J tS mX6_digest d 32 [some (.ref a0), some (.long i1n32), none, some (.int i3n32), none] [] V0 0 0 (fun r V => (fun r _ => ∃ y : Int64, r = some (.long y) ∧ (y = jdh (fun q : Nat => !jbt po (9 + q % pw.toInt.toNat + 8 * (q / pw.toInt.toNat))) (pw.toInt.toNat * ph.toInt.toNat) (jdw GA MN SP v1.toInt.toNat (jdg (jC4 v1 cn pw ph) 4 107)))) r V ∧ V = V0) := by
          intro N
          induction N with
          | zero => intro i1n32 i3n32  hi3b hh2 hm; exact absurd hm (Nat.not_lt_zero _)
          | succ N ih =>
            intro i1n32 i3n32  hi3b hh2 hm
            have ih32 := ih
            have hri3 := j_rng i3n32
            refine J_iload_n dX6_digest_32 rfl ?_
            refine J_aload_n dX6_digest_33 rfl ?_
            refine J_get jf_X6_15 dX6_digest_34 hO_a0 hF_v1 ?_
            refine Jz_icmp_ge (tgt := 65) jEq.rf jEq.rf dX6_digest_37 (by decide) (fun c37 => ?_) (fun c37 => ?_)
            · refine J_aload_n dX6_digest_65 rfl ?_
              refine J_get jf_X6_42 dX6_digest_66 hO_a0 hF_pl ?_
              refine J_lload_n dX6_digest_69 rfl ?_
              refine Jw_callV1 (q9 := (RX2, TX2, 9)) moX2_digestOnto jw_ml_X6_255 jw_im_X2_digestOnto jw_se_X2_digestOnto hb_pl rfl rfl dX6_digest_70 (w_X2_digestOnto_z (d - 1) _ pl i1n32 pw ph po (by omega) hW  hb_pl ⟨_, hOp, hFpw⟩ ⟨_, hOp, hFph⟩ ⟨_, hOp, hFpo⟩ (by omega) (by omega) (by omega) (by omega)) (by omega) (Nat.zero_le _) (Nat.zero_le _) (Nat.le_of_ble_eq_true rfl) (fun r70 V70 h70 => ?_)
              obtain ⟨⟨y70, rfl, hP70_0⟩, hE70⟩ := h70
              have hE70 := hE70.symm
              subst hE70
              exact J_ret (r := some (.long _)) dX6_digest_73 ⟨rfl, rfl⟩ (⟨⟨_, rfl, (by rw [hP70_0, hh2, show v1.toInt.toNat = i3n32.toInt.toNat by omega])⟩, rfl⟩)
            · refine J_aload_n dX6_digest_40 rfl ?_
              refine J_iload_n dX6_digest_41 rfl ?_
              obtain ⟨S9, X9, Y9, Z9, hfo9, hrw9, hwv9⟩ := hrows i3n32.toInt.toNat (by omega)
              obtain ⟨⟨M9, m9, e9⟩, ⟨g9, gg9, eg9⟩, ⟨n9, nn9, en9⟩, t1, t2, t3, t4, u1, u2, u3, u4⟩ := hrw9
              have hn9 := hwv9.2.1
              have hb9 : jis V0 (.inr 1) (A i3n32.toInt.toNat).1 := by obtain ⟨q1, q2, q3⟩ := m9; exact ⟨_, q2, rfl⟩
              refine Jw_callV1 (q9 := (RX6, TX6, 7)) moX6_rowOf jw_ml_X6_55 jw_im_X6_rowOf jw_se_X6_rowOf ha0 rfl rfl dX6_digest_42 (w_X6_rowOf_in (d - 1) _ a0 i3n32 hO_a0 hF_md hF_v1 ha_f (by omega) (by omega) (by omega) hfo9) (by omega) (Nat.zero_le _) (Nat.zero_le _) (Nat.le_of_ble_eq_true rfl) (fun r42 V42 h42 => ?_)
              obtain ⟨rfl, hE42⟩ := h42
              have hE42 := hE42.symm
              subst hE42
              · refine J_astore dX6_digest_45 rfl (by decide) ?_
                refine J_aload dX6_digest_47 rfl ?_
                refine J_ifnull dX6_digest_49 ?_
                refine J_aload dX6_digest_52 rfl ?_
                refine J_lload_n dX6_digest_54 rfl ?_
                refine Jw_callV1 (q9 := (RX3, TX3, 7)) moX3_digestOnto jw_ml_X6_251 jw_im_X3_digestOnto jw_se_X3_digestOnto hb9 rfl rfl dX6_digest_55 (w_X3_digestOnto_z (d - 1) _ (A i3n32.toInt.toNat).1 i1n32 M9 g9 n9 _ _ _ _ S9 X9 Y9 Z9 (by omega) hW hb9 m9 gg9 nn9 t1 t2 t3 t4 u1 u2 u3 u4 e9 (by decide) (by omega)) (by omega) (Nat.zero_le _) (Nat.zero_le _) (Nat.le_of_ble_eq_true rfl) (fun r55 V55 h55 => ?_)
                obtain ⟨⟨y55, rfl, hP55_0⟩, hE55⟩ := h55
                have hE55 := hE55.symm
                subst hE55
                · refine J_lstore_n dX6_digest_58 rfl (by decide) ?_
                  refine Jz_iinc 1 dX6_digest_59 rfl rfl (by decide) jEq.rf (by decide) (by omega) (by omega) (fun y59 he59 => ?_)
                  refine J_goto (tgt := 32) dX6_digest_62 (by decide) ?_
                  refine J.mask [true, true, false, true, false] ?_
                  exact ih32  y55 y59  (by (try simp only [he59.eq, true_and, and_true]) <;> omega) (by rw [he59.eq, show (i3n32.toInt + 1).toNat = i3n32.toInt.toNat + 1 by omega]; show _ = jdg _ (MN i3n32.toInt.toNat).toInt.toNat _; rw [hP55_0, hh2, jI_inj.mp eg9, jI_inj.mp en9]; exact jdg_congr _ _ (fun j hj => jI_inj.mp ((hwv9.2.2.1 j (by omega)).1))) (by (try simp only [he59.eq, true_and, and_true]) <;> omega)
        refine J.mask [true, true, false, true, false] ?_
        exact L32 _  i1n6 y30    (by (try simp only [he30.eq, true_and, and_true]) <;> omega) (by rw [he30.eq]; have e : i3n6.toInt.toNat = 4 := (by omega); rw [e] at hh; exact hh) (Nat.lt_succ_self _)
      · refine J_ldc2 jw_k_X6_246 dX6_digest_11 ?_
        refine J_lload_n dX6_digest_14 rfl ?_
        refine J_lmul dX6_digest_15 ?_
        refine J_aload_n dX6_digest_16 rfl ?_
        refine J_iload_n dX6_digest_17 rfl ?_
        refine Jw_callV1 (q9 := (RX6, TX6, 7)) moX6_count jw_ml_X6_248 jw_im_X6_count jw_se_X6_count ha0 rfl rfl dX6_digest_18 (w_X6_count_z (d - 1) _ a0 i3n6 v1 pl pw ph po (by omega) hW  ha0 ⟨_, hO_a0, hF_v1⟩ ⟨_, hO_a0, hF_pl⟩ hpw hph hpo) (by omega) (Nat.zero_le _) (Nat.zero_le _) (Nat.le_of_ble_eq_true rfl) (fun r18 V18 h18 => ?_)
        obtain ⟨⟨y18, rfl, hl18, hh18, hP18_0⟩, hE18⟩ := h18
        have hE18 := hE18.symm
        subst hE18
        clear hl18 hh18
        have hcf : (jC4 v1 cn pw ph i3n6.toInt.toNat).toInt = y18.toInt := by unfold jC4; (repeat' split) <;> omega
        refine J_i2l dX6_digest_21 rfl ?_
        refine J_ladd dX6_digest_22 ?_
        refine J_lstore_n dX6_digest_23 rfl (by decide) ?_
        refine Jz_iinc 1 dX6_digest_24 rfl rfl (by decide) jEq.rf (by decide) (by omega) (by omega) (fun y24 he24 => ?_)
        refine J_goto (tgt := 6) dX6_digest_27 (by decide) ?_
        refine J.mask [true, true, false, true, false] ?_
        exact ih6  (((31 : Int64) * i1n6) + y18.toInt64) y24  (by (try simp only [he24.eq, true_and, and_true]) <;> omega) (by rw [he24.eq, show (i3n6.toInt + 1).toNat = i3n6.toInt.toNat + 1 by omega]; show _ = 31 * jdg (jC4 v1 cn pw ph) i3n6.toInt.toNat 107 + (jC4 v1 cn pw ph i3n6.toInt.toNat).toInt64; rw [← hh, jI_inj.mp hcf]) (by (try simp only [he24.eq, true_and, and_true]) <;> omega)
  refine J.mask [true, true, false, true, false] ?_
  exact L6 _  (107 : Int64) y4    (by (try simp only [he4.eq, true_and, and_true]) <;> omega) (by rw [he4.eq]; rfl) (Nat.lt_succ_self _)
set_option maxRecDepth 100000 in
set_option maxHeartbeats 8000000 in
theorem w_X1_turnedStep_z {tS : jTS} (d : Nat) (V0 : jH) {ln : Nat} (a0 : Nat) (x1 : Int32) (x2 : Int32) (x3 : Int32) (M : Int32) (g : Int32) (n : Int32) (s : Nat) (xx : Nat) (yy : Nat) (zz : Nat) (S : Nat → Int32) (X : Nat → Int32) (Y : Nat → Int32) (Z : Nat → Int32) (hd : 2 ≤ d) (hW : WT V0) (ha0 : jis V0 (.inr 1) a0) (hl2 : 0 ≤ x2.toInt) (hh2 : x2.toInt ≤ 1) (hf_M : jfI V0 a0 1 0 M) (hf_g : jfI V0 a0 1 5 g) (hf_n : jfI V0 a0 1 6 n) (hr_s : jfR V0 a0 1 1 s) (hr_xx : jfR V0 a0 1 2 xx) (hr_yy : jfR V0 a0 1 3 yy) (hr_zz : jfR V0 a0 1 4 zz) (ha_S : V0 s = some (.inl (6, ln, .inl S))) (ha_X : V0 xx = some (.inl (34, ln + 1, .inl X))) (ha_Y : V0 yy = some (.inl (35, ln + 1, .inl Y))) (ha_Z : V0 zz = some (.inl (36, ln + 1, .inl Z))) (hp0 : M.toInt = (ln : Int)) (hp1 : (ln : Int) ≤ 120) (hp2 : n.toInt ≤ M.toInt) (hp3 : 0 ≤ g.toInt) (hp4 : g.toInt ≤ 3) (hp5 : 0 ≤ x1.toInt) (hp6 : x1.toInt < jtur g.toInt) (hp7 : ∀ j : Nat, (j : Int) < n.toInt → 0 ≤ (S j).toInt ∧ (S j).toInt < jdir g.toInt) (hp8 : 0 ≤ x3.toInt) (hp9 : x3.toInt < n.toInt) : jTot tS mX1_turnedStep d [.ref a0, .int x1, .int x2, .int x3] V0 0 0 (fun r V => (fun r _ => ∃ y : Int32, r = some (.int y) ∧ ((-2147483648) ≤ y.toInt) ∧ (y.toInt ≤ 2147483647) ∧ (y.toInt = (jim g.toInt (fun q => (S q).toInt) n.toInt.toNat x1.toInt (decide (x2.toInt = 1)) x3.toInt.toNat))) r V ∧ V = V0) := by
  refine jTot.of_J [some (.ref a0), some (.int x1), some (.int x2), some (.int x3), none] moX1_turnedStep (Nat.le_of_ble_eq_true rfl) rfl ?_
  have hrx1 := j_rng x1
  have hrx3 := j_rng x3
  have he : jeff [] V0 V0 := jeff.refl _ _
  obtain ⟨fs_a0, hO_a0, hK_a0⟩ := WT_obj hW id ha0
  have hF_M := hf_M.get hO_a0
  have hrM : 0 ≤ M.toInt ∧ M.toInt ≤ 120 := jok_rngI hK_a0 rfl hF_M
  have hF_g := hf_g.get hO_a0
  have hrg : (-2147483648) ≤ g.toInt ∧ g.toInt ≤ 2147483647 := jok_rngI hK_a0 rfl hF_g
  have hF_n := hf_n.get hO_a0
  have hrn : 0 ≤ n.toInt ∧ n.toInt ≤ 120 := jok_rngI hK_a0 rfl hF_n
  have hF_s := hr_s.get hO_a0
  obtain ⟨w_s, hFq_s, b_s, hbq_s, hb_s⟩ := hK_a0.2 1 (.inr (some (.inl 6))) rfl
  cases hF_s.symm.trans (hFq_s.trans (congrArg some hbq_s))
  have hF_xx := hr_xx.get hO_a0
  obtain ⟨w_xx, hFq_xx, b_xx, hbq_xx, hb_xx⟩ := hK_a0.2 2 (.inr (some (.inl 34))) rfl
  cases hF_xx.symm.trans (hFq_xx.trans (congrArg some hbq_xx))
  have hF_yy := hr_yy.get hO_a0
  obtain ⟨w_yy, hFq_yy, b_yy, hbq_yy, hb_yy⟩ := hK_a0.2 3 (.inr (some (.inl 35))) rfl
  cases hF_yy.symm.trans (hFq_yy.trans (congrArg some hbq_yy))
  have hF_zz := hr_zz.get hO_a0
  obtain ⟨w_zz, hFq_zz, b_zz, hbq_zz, hb_zz⟩ := hK_a0.2 4 (.inr (some (.inl 36))) rfl
  cases hF_zz.symm.trans (hFq_zz.trans (congrArg some hbq_zz))
  obtain ⟨hN_S, hv_S⟩ := WT_rngI (r := ((-2147483648), 2147483647)) hW id rfl ha_S
  clear hN_S
  obtain ⟨hN_X, hv_X⟩ := WT_rngI (r := ((-2147483648), 2147483647)) hW id rfl ha_X
  clear hN_X
  obtain ⟨hN_Y, hv_Y⟩ := WT_rngI (r := ((-2147483648), 2147483647)) hW id rfl ha_Y
  clear hN_Y
  obtain ⟨hN_Z, hv_Z⟩ := WT_rngI (r := ((-2147483648), 2147483647)) hW id rfl ha_Z
  clear hN_Z
  have hjd := jdir_cases g.toInt
  refine J_iload_n dX1_turnedStep_0 rfl ?_
  refine Jz_if_eq (tgt := 26) jEq.rf dX1_turnedStep_1 (by decide) (fun c1 => ?_) (fun c1 => ?_)
  · refine J_aload_n dX1_turnedStep_26 rfl ?_
    refine J_iload_n dX1_turnedStep_27 rfl ?_
    refine Jw_callV1 (q9 := (RX3, TX3, 7)) moX3_direction jw_ml_X1_15 jw_im_X3_direction jw_se_X3_direction ha0 rfl rfl dX1_turnedStep_28 (w_X3_direction_z (d - 1) _ a0 x3 s S (by omega) hW  ha0 ⟨_, hO_a0, hF_s⟩ ha_S (by omega) (by omega) (by omega)) (by omega) (Nat.zero_le _) (Nat.zero_le _) (Nat.le_of_ble_eq_true rfl) (fun r28 V28 h28 => ?_)
    obtain ⟨⟨y28, rfl, hl28, hh28, hP28_0⟩, hE28⟩ := h28
    have hE28 := hE28.symm
    subst hE28
    clear hl28 hh28
    have hz28 : jEq y28.toInt ((S (x3.toInt).toNat).toInt) := hP28_0
    clear hP28_0
    have hsd := hp7 x3.toInt.toNat (by omega)
    refine J_istore dX1_turnedStep_31 rfl (by decide) ?_
    refine J_aload_n dX1_turnedStep_33 rfl ?_
    refine J_get jf_X1_23 dX1_turnedStep_34 hO_a0 hF_g ?_
    refine J_iload_n dX1_turnedStep_37 rfl ?_
    refine J_iload dX1_turnedStep_38 rfl ?_
    refine J_callS3 moX0_turned jw_ml_X1_49 jw_st_X0_turned dX1_turnedStep_40 (w_X0_turned_z (d - 1) _ g x1 y28 (by omega)   (by omega) (by omega) (by omega) (by omega) (by (try simp only [hz28.eq, true_and, and_true]) <;> omega) (by (try simp only [hz28.eq, true_and, and_true]) <;> omega)) (by omega) (Nat.zero_le _) (Nat.zero_le _) (Nat.le_of_ble_eq_true rfl) (fun r40 V40 h40 => ?_)
    obtain ⟨⟨y40, rfl, hl40, hh40, hP40_0⟩, hE40⟩ := h40
    have hE40 := hE40.symm
    subst hE40
    clear hl40 hh40
    try simp only [hz28.eq] at hP40_0
    have hz40 : jEq y40.toInt (jtn (g.toInt) (x1.toInt) ((S (x3.toInt).toNat).toInt)) := hP40_0
    clear hP40_0
    exact J_ret (r := some (.int _)) dX1_turnedStep_43 ⟨rfl, _, rfl, rfl⟩ (⟨⟨_, rfl, (j_rng _).1, (j_rng _).2, (by rw [hz40.eq]; unfold jim; first | (rw [show decide (x2.toInt = 1) = true from decide_eq_true (by omega)]; (show jtn _ _ _ = jtn _ _ (jopp _ (S _).toInt)); rw [show (n.toInt - 1 - x3.toInt).toNat = n.toInt.toNat - 1 - x3.toInt.toNat by omega]) | (rw [show decide (x2.toInt = 1) = false from decide_eq_false (by omega)]; rfl))⟩, rfl⟩)
  · refine J_aload_n dX1_turnedStep_4 rfl ?_
    refine J_get jf_X1_23 dX1_turnedStep_5 hO_a0 hF_g ?_
    refine J_aload_n dX1_turnedStep_8 rfl ?_
    refine J_aload_n dX1_turnedStep_9 rfl ?_
    refine J_get jf_X1_9 dX1_turnedStep_10 hO_a0 hF_n ?_
    refine Jz_iconst 1 dX1_turnedStep_13 (by decide) (fun y13 he13 => ?_)
    refine Jz_isub jEq.rf he13 dX1_turnedStep_14 (by omega) (by omega) (fun y14 he14 => ?_)
    refine J_iload_n dX1_turnedStep_15 rfl ?_
    refine Jz_isub he14 jEq.rf dX1_turnedStep_16 (by omega) (by omega) (fun y16 he16 => ?_)
    refine Jw_callV1 (q9 := (RX3, TX3, 7)) moX3_direction jw_ml_X1_15 jw_im_X3_direction jw_se_X3_direction ha0 rfl rfl dX1_turnedStep_17 (w_X3_direction_z (d - 1) _ a0 y16 s S (by omega) hW  ha0 ⟨_, hO_a0, hF_s⟩ ha_S (by (try simp only [he16.eq, true_and, and_true]) <;> omega) (by (try simp only [he16.eq, true_and, and_true]) <;> omega) (by omega)) (by omega) (Nat.zero_le _) (Nat.zero_le _) (Nat.le_of_ble_eq_true rfl) (fun r17 V17 h17 => ?_)
    obtain ⟨⟨y17, rfl, hl17, hh17, hP17_0⟩, hE17⟩ := h17
    have hE17 := hE17.symm
    subst hE17
    clear hl17 hh17
    try simp only [he16.eq] at hP17_0
    have hz17 : jEq y17.toInt ((S (n.toInt - 1 - x3.toInt).toNat).toInt) := hP17_0
    clear hP17_0
    have hsd := hp7 (n.toInt - 1 - x3.toInt).toNat (by omega)
    refine J_callS2 moX0_opposite jw_ml_X1_45 jw_st_X0_opposite dX1_turnedStep_20 (w_X0_opposite_z (d - 1) _ g y17 (by omega)   (by omega) (by omega) (by (try simp only [hz17.eq, true_and, and_true]) <;> omega) (by (try simp only [hz17.eq, true_and, and_true]) <;> omega)) (by omega) (Nat.zero_le _) (Nat.zero_le _) (Nat.le_of_ble_eq_true rfl) (fun r20 V20 h20 => ?_)
    obtain ⟨⟨y20, rfl, hl20, hh20, hP20_0⟩, hE20⟩ := h20
    have hE20 := hE20.symm
    subst hE20
    clear hl20 hh20
    try simp only [hz17.eq] at hP20_0
    have hz20 : jEq y20.toInt (jopp (g.toInt) ((S (n.toInt - 1 - x3.toInt).toNat).toInt)) := hP20_0
    clear hP20_0
    have hob := jopp_b (g := g.toInt) (d := (S (n.toInt - 1 - x3.toInt).toNat).toInt) (by omega) (by omega)
    refine J_goto (tgt := 31) dX1_turnedStep_23 (by decide) ?_
    refine J_istore dX1_turnedStep_31 rfl (by decide) ?_
    refine J_aload_n dX1_turnedStep_33 rfl ?_
    refine J_get jf_X1_23 dX1_turnedStep_34 hO_a0 hF_g ?_
    refine J_iload_n dX1_turnedStep_37 rfl ?_
    refine J_iload dX1_turnedStep_38 rfl ?_
    refine J_callS3 moX0_turned jw_ml_X1_49 jw_st_X0_turned dX1_turnedStep_40 (w_X0_turned_z (d - 1) _ g x1 y20 (by omega)   (by omega) (by omega) (by omega) (by omega) (by (try simp only [hz20.eq, true_and, and_true]) <;> omega) (by (try simp only [hz20.eq, true_and, and_true]) <;> omega)) (by omega) (Nat.zero_le _) (Nat.zero_le _) (Nat.le_of_ble_eq_true rfl) (fun r40 V40 h40 => ?_)
    obtain ⟨⟨y40, rfl, hl40, hh40, hP40_0⟩, hE40⟩ := h40
    have hE40 := hE40.symm
    subst hE40
    clear hl40 hh40
    try simp only [hz20.eq] at hP40_0
    have hz40 : jEq y40.toInt (jtn (g.toInt) (x1.toInt) (jopp (g.toInt) ((S (n.toInt - 1 - x3.toInt).toNat).toInt))) := hP40_0
    clear hP40_0
    exact J_ret (r := some (.int _)) dX1_turnedStep_43 ⟨rfl, _, rfl, rfl⟩ (⟨⟨_, rfl, (j_rng _).1, (j_rng _).2, (by rw [hz40.eq]; unfold jim; first | (rw [show decide (x2.toInt = 1) = true from decide_eq_true (by omega)]; (show jtn _ _ _ = jtn _ _ (jopp _ (S _).toInt)); rw [show (n.toInt - 1 - x3.toInt).toNat = n.toInt.toNat - 1 - x3.toInt.toNat by omega]) | (rw [show decide (x2.toInt = 1) = false from decide_eq_false (by omega)]; rfl))⟩, rfl⟩)
set_option maxRecDepth 100000 in
set_option maxHeartbeats 8000000 in
theorem w_X6_alike_oo {tS : jTS} (d : Nat) (V0 : jH) (a0 : Nat) (x1 : Int32) (x2 : Int32) (k : Int32) (md : Nat) (hd : 6 ≤ d) (hW : WT V0) (ha0 : jis V0 (.inr 4) a0) (hf_k : jfI V0 a0 4 1 k) (hr_md : jfR V0 a0 4 0 md) (hp0 : ¬ (0 ≤ x1.toInt ∧ x1.toInt < k.toInt)) (hp1 : ¬ (0 ≤ x2.toInt ∧ x2.toInt < k.toInt)) : jTot tS mX6_alike d [.ref a0, .int x1, .int x2] V0 0 0 (fun r V => (fun r _ => ∃ y : Int32, r = some (.int y) ∧ ((-2147483648) ≤ y.toInt) ∧ (y.toInt ≤ 2147483647) ∧ (y.toInt = -2)) r V ∧ V = V0) := by
  refine jTot.of_J [some (.ref a0), some (.int x1), some (.int x2), none, none, none] moX6_alike (Nat.le_of_ble_eq_true rfl) rfl ?_
  have hrx1 := j_rng x1
  have hrx2 := j_rng x2
  have he : jeff [] V0 V0 := jeff.refl _ _
  obtain ⟨fs_a0, hO_a0, hK_a0⟩ := WT_obj hW id ha0
  have hF_k := hf_k.get hO_a0
  have hrk : 0 ≤ k.toInt ∧ k.toInt ≤ 16 := jok_rngI hK_a0 rfl hF_k
  have hF_md := hr_md.get hO_a0
  obtain ⟨w_md, hFq_md, b_md, hbq_md, hb_md⟩ := hK_a0.2 0 (.inr (some (.inl 4))) rfl
  cases hF_md.symm.trans (hFq_md.trans (congrArg some hbq_md))
  refine J_aload_n dX6_alike_0 rfl ?_
  refine J_iload_n dX6_alike_1 rfl ?_
  refine Jw_callV1 (q9 := (RX6, TX6, 7)) moX6_rowOf jw_ml_X6_55 jw_im_X6_rowOf jw_se_X6_rowOf ha0 rfl rfl dX6_alike_2 (w_X6_rowOf_out (d - 1) _ a0 x1 hO_a0 hF_k (by omega)) (by omega) (Nat.zero_le _) (Nat.zero_le _) (Nat.le_of_ble_eq_true rfl) (fun r2 V2 h2 => ?_)
  obtain ⟨rfl, hE2⟩ := h2
  have hE2 := hE2.symm
  subst hE2
  · refine J_astore_nN dX6_alike_5 rfl (by decide) ?_
    refine J_aload_n dX6_alike_6 rfl ?_
    refine J_iload_n dX6_alike_7 rfl ?_
    refine Jw_callV1 (q9 := (RX6, TX6, 7)) moX6_rowOf jw_ml_X6_55 jw_im_X6_rowOf jw_se_X6_rowOf ha0 rfl rfl dX6_alike_8 (w_X6_rowOf_out (d - 1) _ a0 x2 hO_a0 hF_k (by omega)) (by omega) (Nat.zero_le _) (Nat.zero_le _) (Nat.le_of_ble_eq_true rfl) (fun r8 V8 h8 => ?_)
    obtain ⟨rfl, hE8⟩ := h8
    have hE8 := hE8.symm
    subst hE8
    · refine J_astoreN dX6_alike_11 rfl (by decide) ?_
      refine J_aload_nN dX6_alike_13 rfl ?_
      refine J_ifnullN (tgt := 22) dX6_alike_14 (by decide) ?_
      refine Jz_bipush (-2) dX6_alike_22 (by decide) (fun y22 he22 => ?_)
      exact J_ret (r := some (.int _)) dX6_alike_24 ⟨rfl, _, rfl, rfl⟩ (⟨⟨_, rfl, (j_rng _).1, (j_rng _).2, (by (try simp only [he22.eq, true_and, and_true]) <;> omega)⟩, rfl⟩)
set_option maxRecDepth 100000 in
set_option maxHeartbeats 4000000 in
theorem w_X2_init {tS : jTS} (d : Nat) (V0 : jH) (p : Nat → Prop) (q : Nat)  (hd : 3 ≤ d) (hW : WTx (fun a => p a ∨ a = q) V0) (hq : V0 q = some (.inr (0, [.null, .int 0, .int 0, .long 0, .int 0, .int 0, .int 0, .int 0, .int 0]))) (hnp : ¬ p q)   : jTot tS mX2_init d [.ref q] V0 1 36 (fun r V => r = none ∧ WTx p V ∧ jeff [.inr 0] V0 V ∧ jis V (.inr 0) q ∧ (jpl0 V q)) := by
  refine jTot.of_J [some (.ref q)] moX2_init (Nat.le_of_ble_eq_true rfl) rfl ?_
  have he : jeff [.inr 0] V0 V0 := jeff.refl _ _
  refine J_aload_n dX2_init_0 rfl ?_
  refine J_objInit jw_ml_X2_5 jw_oi2 jw_oi3 dX2_init_1 (by omega) (Nat.le_of_ble_eq_true rfl) ?_
  refine J_aload_n dX2_init_4 rfl ?_
  refine J_bipush (v := 36) dX2_init_5 (by decide) ?_
  refine Jc_newa (atype := .int) (t := 12) (B := 36) (x := .inl (fun _ => 0)) jw_ac_int rfl (fun _ h => by cases h) (by decide) dX2_init_7 (by decide) (by decide) (by decide) (fun _ _ => rfl) (fun hN => jok_zI rfl (by decide) (by decide) (fun m h => by cases h <;> rfl) hN) (by decide) (by decide) hW (fun b7 V7 hn7 hb7 hk7 hW hx7 => ?_)
  have hz7 := he.1.none hn7
  have he := he.trans (hx7.sub (jsub_of rfl))
  have hq := hk7 _ _ hq
  refine Jc_putF jf_X2_11 jt_X2_0 rfl (fun _ h => by cases h; rfl) dX2_init_9 hq rfl rfl (Nat.le_of_ble_eq_true rfl) (fun _ h => by cases h) hW (fun V9 hq hW hx9 hB9 => ?_)
  have he := he.trans (hx9.sub (jsub_of rfl))
  have hb7 := hb7.mono hx9.1
  refine J_aload_n dX2_init_12 rfl ?_
  refine J_iconst (v := 2) dX2_init_13 (by decide) ?_
  refine Jc_put jf_X2_15 jt_X2_1 dX2_init_14 hq rfl rfl (Nat.le_of_ble_eq_true rfl) (fun _ h => by cases h) hW (fun V14 hq hW hx14 hB14 => ?_)
  have he := he.trans (hx14.sub (jsub_of rfl))
  have hb7 := hb7.mono hx14.1
  refine J_aload_n dX2_init_17 rfl ?_
  refine J_iconst (v := 2) dX2_init_18 (by decide) ?_
  refine Jc_put jf_X2_19 jt_X2_2 dX2_init_19 hq rfl rfl (Nat.le_of_ble_eq_true rfl) (fun _ h => by cases h) hW (fun V19 hq hW hx19 hB19 => ?_)
  have he := he.trans (hx19.sub (jsub_of rfl))
  have hb7 := hb7.mono hx19.1
  refine J_aload_n dX2_init_22 rfl ?_
  refine J_lconst (v := 0) dX2_init_23 rfl ?_
  refine Jc_put jf_X2_22 jt_X2_3 dX2_init_24 hq rfl rfl (Nat.le_of_ble_eq_true rfl) (fun _ h => by cases h) hW (fun V24 hq hW hx24 hB24 => ?_)
  have he := he.trans (hx24.sub (jsub_of rfl))
  have hb7 := hb7.mono hx24.1
  refine J_aload_n dX2_init_27 rfl ?_
  refine J_iconst (v := 0) dX2_init_28 (by decide) ?_
  refine Jc_put jf_X2_26 jt_X2_4 dX2_init_29 hq rfl rfl (Nat.le_of_ble_eq_true rfl) (fun _ h => by cases h) hW (fun V29 hq hW hx29 hB29 => ?_)
  have he := he.trans (hx29.sub (jsub_of rfl))
  have hb7 := hb7.mono hx29.1
  refine J_aload_n dX2_init_32 rfl ?_
  refine J_iconst (v := 0) dX2_init_33 (by decide) ?_
  refine Jc_put jf_X2_29 jt_X2_5 dX2_init_34 hq rfl rfl (Nat.le_of_ble_eq_true rfl) (fun _ h => by cases h) hW (fun V34 hq hW hx34 hB34 => ?_)
  have he := he.trans (hx34.sub (jsub_of rfl))
  have hb7 := hb7.mono hx34.1
  refine J_aload_n dX2_init_37 rfl ?_
  refine J_iconst (v := 0) dX2_init_38 (by decide) ?_
  refine Jc_put jf_X2_32 jt_X2_6 dX2_init_39 hq rfl rfl (Nat.le_of_ble_eq_true rfl) (fun _ h => by cases h) hW (fun V39 hq hW hx39 hB39 => ?_)
  have he := he.trans (hx39.sub (jsub_of rfl))
  have hb7 := hb7.mono hx39.1
  refine J_aload_n dX2_init_42 rfl ?_
  refine J_iconst (v := 0) dX2_init_43 (by decide) ?_
  refine Jc_put jf_X2_35 jt_X2_7 dX2_init_44 hq rfl rfl (Nat.le_of_ble_eq_true rfl) (fun _ h => by cases h) hW (fun V44 hq hW hx44 hB44 => ?_)
  have he := he.trans (hx44.sub (jsub_of rfl))
  have hb7 := hb7.mono hx44.1
  refine J_aload_n dX2_init_47 rfl ?_
  refine J_iconst (v := 0) dX2_init_48 (by decide) ?_
  refine Jc_put jf_X2_39 jt_X2_8 dX2_init_49 hq rfl rfl (Nat.le_of_ble_eq_true rfl) (fun _ h => by cases h) hW (fun V49 hq hW hx49 hB49 => ?_)
  have he := he.trans (hx49.sub (jsub_of rfl))
  have hb7 := hb7.mono hx49.1
  have hW := hW.fin hq (jokO_cons ⟨_, rfl, hb7⟩ (jokO_cons ⟨_, rfl, (j_rng _).1, (j_rng _).2⟩ (jokO_cons ⟨_, rfl, (j_rng _).1, (j_rng _).2⟩ (jokO_cons ⟨_, rfl⟩ (jokO_cons ⟨_, rfl, (j_rng _).1, (j_rng _).2⟩ (jokO_cons ⟨_, rfl, (j_rng _).1, (j_rng _).2⟩ (jokO_cons ⟨_, rfl, (j_rng _).1, (j_rng _).2⟩ (jokO_cons ⟨_, rfl, by first | decide | assumption | omega, by first | decide | assumption | omega⟩ (jokO_cons ⟨_, rfl, by first | decide | assumption | omega, by first | decide | assumption | omega⟩ (jokO_nil))))))))))
  have hq0 : jis _ (.inr 0) q := ⟨_, hq, rfl⟩
  obtain ⟨fsq, hOq, hFq0⟩ : ∃ fs : List Value, V49 q = some (.inr (0, fs)) ∧ fs[0]? = some (.ref b7) := ⟨_, hq, rfl⟩
  have hKq : jokO V49 (jFs 0) fsq := hW _ _ hnp hOq
  refine J_aload_n dX2_init_52 rfl ?_
  refine J_iconst (v := 2) dX2_init_53 (by decide) ?_
  refine J_iconst (v := 2) dX2_init_54 (by decide) ?_
  refine Jw_callV2 (q9 := (RX2, TX2, 9)) moX2_lay jw_ml_X2_42 jw_im_X2_lay jw_se_X2_lay hq0 rfl rfl dX2_init_55 (w_X2_lay_z (d - 1) _ _ _ _ (by omega) hW hnp hq0 (by decide) (by decide) (by decide) (by decide)) (by omega) (Nat.zero_le _) (Nat.zero_le _) (Nat.le_of_ble_eq_true rfl) (fun r55 V55 h55 => ?_)
  obtain ⟨⟨hW, hx55, hr55⟩, ⟨op55, hop55, hbt55⟩, ⟨w55, hw55, hwe55⟩, ⟨z55, hz55, hze55⟩, ⟨c55, hc55, hce55⟩⟩ := h55
  have he := he.trans (hx55.sub (jsub_of rfl))
  have hq0 := hq0.mono hx55.1
  cases hr55
  · exact J_ret (r := none) dX2_init_58 ⟨rfl, rfl⟩ (⟨rfl, hW, he, hq0, ⟨⟨_, hc55, hce55⟩, _, _, _, hw55, hz55, hop55, hwe55, hze55, hbt55⟩⟩)
