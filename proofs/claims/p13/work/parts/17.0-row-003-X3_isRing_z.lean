set_option maxRecDepth 100000 in
set_option maxHeartbeats 8000000 in
theorem w_X3_isRing_z {tS : jTS} (d : Nat) (V0 : jH) {ln : Nat} (a0 : Nat) (M : Int32) (g : Int32) (n : Int32) (s : Nat) (xx : Nat) (yy : Nat) (zz : Nat) (S : Nat → Int32) (X : Nat → Int32) (Y : Nat → Int32) (Z : Nat → Int32) (hd : 2 ≤ d) (hW : WT V0) (ha0 : jis V0 (.inr 1) a0) (hf_M : jfI V0 a0 1 0 M) (hf_g : jfI V0 a0 1 5 g) (hf_n : jfI V0 a0 1 6 n) (hr_s : jfR V0 a0 1 1 s) (hr_xx : jfR V0 a0 1 2 xx) (hr_yy : jfR V0 a0 1 3 yy) (hr_zz : jfR V0 a0 1 4 zz) (ha_S : V0 s = some (.inl (6, ln, .inl S))) (ha_X : V0 xx = some (.inl (34, ln + 1, .inl X))) (ha_Y : V0 yy = some (.inl (35, ln + 1, .inl Y))) (ha_Z : V0 zz = some (.inl (36, ln + 1, .inl Z))) (hp0 : M.toInt = (ln : Int)) (hp1 : (ln : Int) ≤ 120) (hp2 : n.toInt ≤ M.toInt) (hp3 : -120 ≤ (X n.toInt.toNat).toInt) (hp4 : (X n.toInt.toNat).toInt ≤ 120) (hp5 : -120 ≤ (Y n.toInt.toNat).toInt) (hp6 : (Y n.toInt.toNat).toInt ≤ 120) (hp7 : -120 ≤ (Z n.toInt.toNat).toInt) (hp8 : (Z n.toInt.toNat).toInt ≤ 120) : jTot tS mX3_isRing d [.ref a0] V0 0 0 (fun r V => (fun r _ => ∃ y : Int32, r = some (.int y) ∧ (0 ≤ y.toInt) ∧ (y.toInt ≤ 1) ∧ ((y.toInt = 1 ∧ (2 ≤ n.toInt ∧ jsq g.toInt (X n.toInt.toNat).toInt (Y n.toInt.toNat).toInt (Z n.toInt.toNat).toInt = 1 ∧ (¬ g.toInt = 2 ∨ 0 ≤ (Y n.toInt.toNat).toInt))) ∨ (y.toInt = 0 ∧ ¬ (2 ≤ n.toInt ∧ jsq g.toInt (X n.toInt.toNat).toInt (Y n.toInt.toNat).toInt (Z n.toInt.toNat).toInt = 1 ∧ (¬ g.toInt = 2 ∨ 0 ≤ (Y n.toInt.toNat).toInt))))) r V ∧ V = V0) := by
  refine jTot.of_J [some (.ref a0)] moX3_isRing (Nat.le_of_ble_eq_true rfl) rfl ?_
  have he : jeff [] V0 V0 := jeff.refl _ _
  obtain ⟨fs_a0, hO_a0, hK_a0⟩ := WT_obj hW id ha0
  have hF_M := hf_M.get hO_a0
  have hrM : 0 ≤ M.toInt ∧ M.toInt ≤ 120 := jok_rngI hK_a0 rfl hF_M
  have hF_g := hf_g.get hO_a0
  have hrg : (-2147483648) ≤ g.toInt ∧ g.toInt ≤ 2147483647 := jok_rngI hK_a0 rfl hF_g
  have hF_n := hf_n.get hO_a0
  have hrn : 0 ≤ n.toInt ∧ n.toInt ≤ 120 := jok_rngI hK_a0 rfl hF_n
  have hF_s := hr_s.get hO_a0
  obtain ⟨w_s, hFq_s, b_s, hbq_s, hb_s⟩ := hK_a0.2 1 (.inr (some (.inl 6))) rfl
  cases hF_s.symm.trans (hFq_s.trans (congrArg some hbq_s))
  have hF_xx := hr_xx.get hO_a0
  obtain ⟨w_xx, hFq_xx, b_xx, hbq_xx, hb_xx⟩ := hK_a0.2 2 (.inr (some (.inl 34))) rfl
  cases hF_xx.symm.trans (hFq_xx.trans (congrArg some hbq_xx))
  have hF_yy := hr_yy.get hO_a0
  obtain ⟨w_yy, hFq_yy, b_yy, hbq_yy, hb_yy⟩ := hK_a0.2 3 (.inr (some (.inl 35))) rfl
  cases hF_yy.symm.trans (hFq_yy.trans (congrArg some hbq_yy))
  have hF_zz := hr_zz.get hO_a0
  obtain ⟨w_zz, hFq_zz, b_zz, hbq_zz, hb_zz⟩ := hK_a0.2 4 (.inr (some (.inl 36))) rfl
  cases hF_zz.symm.trans (hFq_zz.trans (congrArg some hbq_zz))
  obtain ⟨hN_S, hv_S⟩ := WT_rngI (r := ((-2147483648), 2147483647)) hW id rfl ha_S
  clear hN_S
  obtain ⟨hN_X, hv_X⟩ := WT_rngI (r := ((-2147483648), 2147483647)) hW id rfl ha_X
  clear hN_X
  obtain ⟨hN_Y, hv_Y⟩ := WT_rngI (r := ((-2147483648), 2147483647)) hW id rfl ha_Y
  clear hN_Y
  obtain ⟨hN_Z, hv_Z⟩ := WT_rngI (r := ((-2147483648), 2147483647)) hW id rfl ha_Z
  clear hN_Z
  refine J_aload_n dX3_isRing_0 rfl ?_
  refine J_get jf_X3_15 dX3_isRing_1 hO_a0 hF_n ?_
  refine Jz_iconst 2 dX3_isRing_4 (by decide) (fun y4 he4 => ?_)
  refine Jz_icmp_lt (tgt := 34) jEq.rf he4 dX3_isRing_5 (by decide) (fun c5 => ?_) (fun c5 => ?_)
  · refine Jz_iconst 0 dX3_isRing_34 (by decide) (fun y34 he34 => ?_)
    exact J_ret (r := some (.int _)) dX3_isRing_35 ⟨rfl, _, rfl, (nar_b (by (try simp only [he34.eq, true_and, and_true]) <;> omega) (by (try simp only [he34.eq, true_and, and_true]) <;> omega))⟩ (⟨⟨_, rfl, (by (try simp only [he34.eq, true_and, and_true]) <;> omega), (by (try simp only [he34.eq, true_and, and_true]) <;> omega), (by (try simp only [he34.eq, true_and, and_true]) <;> omega)⟩, rfl⟩)
  · refine J_aload_n dX3_isRing_8 rfl ?_
    refine J_get jf_X3_9 dX3_isRing_9 hO_a0 hF_g ?_
    refine J_aload_n dX3_isRing_12 rfl ?_
    refine Jw_callV0 (q9 := (RX3, TX3, 7)) moX3_endX jw_ml_X3_47 jw_im_X3_endX jw_se_X3_endX ha0 rfl rfl dX3_isRing_13 (w_X3_endX_z (d - 1) _ a0 M g n s xx yy zz S X Y Z (by omega) hW  ha0 ⟨_, hO_a0, hF_M⟩ ⟨_, hO_a0, hF_g⟩ ⟨_, hO_a0, hF_n⟩ ⟨_, hO_a0, hF_s⟩ ⟨_, hO_a0, hF_xx⟩ ⟨_, hO_a0, hF_yy⟩ ⟨_, hO_a0, hF_zz⟩ ha_S ha_X ha_Y ha_Z (by omega) (by omega) (by omega)) (by omega) (Nat.zero_le _) (Nat.zero_le _) (Nat.le_of_ble_eq_true rfl) (fun r13 V13 h13 => ?_)
    obtain ⟨⟨y13, rfl, hl13, hh13, hP13_0⟩, hE13⟩ := h13
    have hE13 := hE13.symm
    subst hE13
    clear hl13 hh13
    have hz13 : jEq y13.toInt ((X (n.toInt).toNat).toInt) := hP13_0
    clear hP13_0
    refine J_aload_n dX3_isRing_16 rfl ?_
    refine Jw_callV0 (q9 := (RX3, TX3, 7)) moX3_endY jw_ml_X3_56 jw_im_X3_endY jw_se_X3_endY ha0 rfl rfl dX3_isRing_17 (w_X3_endY_z (d - 1) _ a0 M g n s xx yy zz S X Y Z (by omega) hW  ha0 ⟨_, hO_a0, hF_M⟩ ⟨_, hO_a0, hF_g⟩ ⟨_, hO_a0, hF_n⟩ ⟨_, hO_a0, hF_s⟩ ⟨_, hO_a0, hF_xx⟩ ⟨_, hO_a0, hF_yy⟩ ⟨_, hO_a0, hF_zz⟩ ha_S ha_X ha_Y ha_Z (by omega) (by omega) (by omega)) (by omega) (Nat.zero_le _) (Nat.zero_le _) (Nat.le_of_ble_eq_true rfl) (fun r17 V17 h17 => ?_)
    obtain ⟨⟨y17, rfl, hl17, hh17, hP17_0⟩, hE17⟩ := h17
    have hE17 := hE17.symm
    subst hE17
    clear hl17 hh17
    have hz17 : jEq y17.toInt ((Y (n.toInt).toNat).toInt) := hP17_0
    clear hP17_0
    refine J_aload_n dX3_isRing_20 rfl ?_
    refine Jw_callV0 (q9 := (RX3, TX3, 7)) moX3_endZ jw_ml_X3_63 jw_im_X3_endZ jw_se_X3_endZ ha0 rfl rfl dX3_isRing_21 (w_X3_endZ_z (d - 1) _ a0 M g n s xx yy zz S X Y Z (by omega) hW  ha0 ⟨_, hO_a0, hF_M⟩ ⟨_, hO_a0, hF_g⟩ ⟨_, hO_a0, hF_n⟩ ⟨_, hO_a0, hF_s⟩ ⟨_, hO_a0, hF_xx⟩ ⟨_, hO_a0, hF_yy⟩ ⟨_, hO_a0, hF_zz⟩ ha_S ha_X ha_Y ha_Z (by omega) (by omega) (by omega)) (by omega) (Nat.zero_le _) (Nat.zero_le _) (Nat.le_of_ble_eq_true rfl) (fun r21 V21 h21 => ?_)
    obtain ⟨⟨y21, rfl, hl21, hh21, hP21_0⟩, hE21⟩ := h21
    have hE21 := hE21.symm
    subst hE21
    clear hl21 hh21
    have hz21 : jEq y21.toInt ((Z (n.toInt).toNat).toInt) := hP21_0
    clear hP21_0
    refine J_callS4 moX0_isBesideBeginning jw_ml_X3_81 jw_st_X0_isBesideBeginning dX3_isRing_24 (w_X0_isBesideBeginning_z (d - 1) _ g y13 y17 y21 (by omega)   (by (try simp only [hz13.eq, true_and, and_true]) <;> omega) (by (try simp only [hz13.eq, true_and, and_true]) <;> omega) (by (try simp only [hz17.eq, true_and, and_true]) <;> omega) (by (try simp only [hz17.eq, true_and, and_true]) <;> omega) (by (try simp only [hz21.eq, true_and, and_true]) <;> omega) (by (try simp only [hz21.eq, true_and, and_true]) <;> omega)) (by omega) (Nat.zero_le _) (Nat.zero_le _) (Nat.le_of_ble_eq_true rfl) (fun r24 V24 h24 => ?_)
    obtain ⟨⟨y24, rfl, hl24, hh24, hP24_0⟩, hE24⟩ := h24
    have hE24 := hE24.symm
    subst hE24
    try simp only [hz13.eq, hz17.eq, hz21.eq] at hP24_0
    refine Jz_if_eq (tgt := 34) jEq.rf dX3_isRing_27 (by decide) (fun c27 => ?_) (fun c27 => ?_)
    · refine Jz_iconst 0 dX3_isRing_34 (by decide) (fun y34 he34 => ?_)
      exact J_ret (r := some (.int _)) dX3_isRing_35 ⟨rfl, _, rfl, (nar_b (by (try simp only [he34.eq, true_and, and_true]) <;> omega) (by (try simp only [he34.eq, true_and, and_true]) <;> omega))⟩ (⟨⟨_, rfl, (by (try simp only [he34.eq, true_and, and_true]) <;> omega), (by (try simp only [he34.eq, true_and, and_true]) <;> omega), (by (try simp only [he34.eq, true_and, and_true]) <;> omega)⟩, rfl⟩)
    · refine Jz_iconst 1 dX3_isRing_30 (by decide) (fun y30 he30 => ?_)
      refine J_goto (tgt := 35) dX3_isRing_31 (by decide) ?_
      exact J_ret (r := some (.int _)) dX3_isRing_35 ⟨rfl, _, rfl, (nar_b (by (try simp only [he30.eq, true_and, and_true]) <;> omega) (by (try simp only [he30.eq, true_and, and_true]) <;> omega))⟩ (⟨⟨_, rfl, (by (try simp only [he30.eq, true_and, and_true]) <;> omega), (by (try simp only [he30.eq, true_and, and_true]) <;> omega), (by (try simp only [he30.eq, true_and, and_true]) <;> omega)⟩, rfl⟩)
