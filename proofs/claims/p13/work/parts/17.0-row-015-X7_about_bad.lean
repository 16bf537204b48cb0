set_option maxRecDepth 100000 in
set_option maxHeartbeats 8000000 in
theorem w_X7_about_bad {tS : jTS} (d : Nat) (V0 : jH) (a0 : Nat) (x1 : Int32) (x2 : Int32) (v0 : Int32) (gr : Nat) (mn : Nat) (sp : Nat) (rw : Nat) (px : Nat) (py : Nat) (pz : Nat) (GA : Nat → Int32) (MN : Nat → Int32) (SP : Nat → Int32) (RW : Nat → Int32) (PX : Nat → Int32) (PY : Nat → Int32) (PZ : Nat → Int32) (hd : 2 ≤ d) (hW : WT V0) (ha0 : jis V0 (.inr 5) a0) (hf_v0 : jfI V0 a0 5 0 v0) (hr_gr : jfR V0 a0 5 1 gr) (hr_mn : jfR V0 a0 5 2 mn) (hr_sp : jfR V0 a0 5 3 sp) (hr_rw : jfR V0 a0 5 4 rw) (hr_px : jfR V0 a0 5 6 px) (hr_py : jfR V0 a0 5 7 py) (hr_pz : jfR V0 a0 5 8 pz) (ha_GA : V0 gr = some (.inl (14, 16, .inl GA))) (ha_MN : V0 mn = some (.inl (15, 16, .inl MN))) (ha_SP : V0 sp = some (.inl (16, 960, .inl SP))) (ha_RW : V0 rw = some (.inl (17, 120, .inl RW))) (ha_PX : V0 px = some (.inl (18, 121, .inl PX))) (ha_PY : V0 py = some (.inl (19, 121, .inl PY))) (ha_PZ : V0 pz = some (.inl (20, 121, .inl PZ))) (hp0 : ¬ (0 ≤ x1.toInt ∧ x1.toInt < v0.toInt ∧ 0 ≤ x2.toInt ∧ x2.toInt ≤ 7)) : jTot tS mX7_about d [.ref a0, .int x1, .int x2] V0 0 0 (fun r V => (fun r _ => ∃ y : Int32, r = some (.int y) ∧ ((-2147483648) ≤ y.toInt) ∧ (y.toInt ≤ 2147483647) ∧ (y.toInt = -2)) r V ∧ V = V0) := by
  refine jTot.of_J [some (.ref a0), some (.int x1), some (.int x2), none, none, none] moX7_about (Nat.le_of_ble_eq_true rfl) rfl ?_
  have hrx1 := j_rng x1
  have hrx2 := j_rng x2
  have he : jeff [] V0 V0 := jeff.refl _ _
  obtain ⟨fs_a0, hO_a0, hK_a0⟩ := WT_obj hW id ha0
  have hF_v0 := hf_v0.get hO_a0
  have hrv0 : 0 ≤ v0.toInt ∧ v0.toInt ≤ 16 := jok_rngI hK_a0 rfl hF_v0
  have hF_gr := hr_gr.get hO_a0
  obtain ⟨w_gr, hFq_gr, b_gr, hbq_gr, hb_gr⟩ := hK_a0.2 1 (.inr (some (.inl 14))) rfl
  cases hF_gr.symm.trans (hFq_gr.trans (congrArg some hbq_gr))
  have hF_mn := hr_mn.get hO_a0
  obtain ⟨w_mn, hFq_mn, b_mn, hbq_mn, hb_mn⟩ := hK_a0.2 2 (.inr (some (.inl 15))) rfl
  cases hF_mn.symm.trans (hFq_mn.trans (congrArg some hbq_mn))
  have hF_sp := hr_sp.get hO_a0
  obtain ⟨w_sp, hFq_sp, b_sp, hbq_sp, hb_sp⟩ := hK_a0.2 3 (.inr (some (.inl 16))) rfl
  cases hF_sp.symm.trans (hFq_sp.trans (congrArg some hbq_sp))
  have hF_rw := hr_rw.get hO_a0
  obtain ⟨w_rw, hFq_rw, b_rw, hbq_rw, hb_rw⟩ := hK_a0.2 4 (.inr (some (.inl 17))) rfl
  cases hF_rw.symm.trans (hFq_rw.trans (congrArg some hbq_rw))
  have hF_px := hr_px.get hO_a0
  obtain ⟨w_px, hFq_px, b_px, hbq_px, hb_px⟩ := hK_a0.2 6 (.inr (some (.inl 18))) rfl
  cases hF_px.symm.trans (hFq_px.trans (congrArg some hbq_px))
  have hF_py := hr_py.get hO_a0
  obtain ⟨w_py, hFq_py, b_py, hbq_py, hb_py⟩ := hK_a0.2 7 (.inr (some (.inl 19))) rfl
  cases hF_py.symm.trans (hFq_py.trans (congrArg some hbq_py))
  have hF_pz := hr_pz.get hO_a0
  obtain ⟨w_pz, hFq_pz, b_pz, hbq_pz, hb_pz⟩ := hK_a0.2 8 (.inr (some (.inl 20))) rfl
  cases hF_pz.symm.trans (hFq_pz.trans (congrArg some hbq_pz))
  obtain ⟨hN_GA, hv_GA⟩ := WT_rngI (r := (0, 3)) hW id rfl ha_GA
  clear hN_GA
  obtain ⟨hN_MN, hv_MN⟩ := WT_rngI (r := (0, 60)) hW id rfl ha_MN
  clear hN_MN
  obtain ⟨hN_SP, hv_SP⟩ := WT_rngI (r := ((-2147483648), 2147483647)) hW id rfl ha_SP
  clear hN_SP
  obtain ⟨hN_RW, hv_RW⟩ := WT_rngI (r := ((-2147483648), 2147483647)) hW id rfl ha_RW
  clear hN_RW
  obtain ⟨hN_PX, hv_PX⟩ := WT_rngI (r := ((-2147483648), 2147483647)) hW id rfl ha_PX
  clear hN_PX
  obtain ⟨hN_PY, hv_PY⟩ := WT_rngI (r := ((-2147483648), 2147483647)) hW id rfl ha_PY
  clear hN_PY
  obtain ⟨hN_PZ, hv_PZ⟩ := WT_rngI (r := ((-2147483648), 2147483647)) hW id rfl ha_PZ
  clear hN_PZ
  refine J_aload_n dX7_about_0 rfl ?_
  refine J_iload_n dX7_about_1 rfl ?_
  refine Jw_callV1 (q9 := (RX7, TX7, 34)) moX7_isWalk jw_ml_X7_130 jw_im_X7_isWalk jw_se_X7_isWalk ha0 rfl rfl dX7_about_2 (w_X7_isWalk_z (d - 1) _ a0 x1 v0 (by omega) hW  ha0 ⟨_, hO_a0, hF_v0⟩) (by omega) (Nat.zero_le _) (Nat.zero_le _) (Nat.le_of_ble_eq_true rfl) (fun r2 V2 h2 => ?_)
  obtain ⟨⟨y2, rfl, hl2, hh2, hP2_0⟩, hE2⟩ := h2
  have hE2 := hE2.symm
  subst hE2
  refine Jz_if_eq (tgt := 18) jEq.rf dX7_about_5 (by decide) (fun c5 => ?_) (fun c5 => ?_)
  · refine Jz_bipush (-2) dX7_about_18 (by decide) (fun y18 he18 => ?_)
    exact J_ret (r := some (.int _)) dX7_about_20 ⟨rfl, _, rfl, rfl⟩ (⟨⟨_, rfl, (j_rng _).1, (j_rng _).2, (by (try simp only [he18.eq, true_and, and_true]) <;> omega)⟩, rfl⟩)
  · refine J_iload_n dX7_about_8 rfl ?_
    refine Jz_iconst 0 dX7_about_9 (by decide) (fun y9 he9 => ?_)
    refine Jz_bipush 7 dX7_about_10 (by decide) (fun y10 he10 => ?_)
    refine J_callS3 moX7_in jw_ml_X7_105 jw_st_X7_in dX7_about_12 (w_X7_in (d - 1) _ x2 y9 y10 (by omega)   ) (by omega) (Nat.zero_le _) (Nat.zero_le _) (Nat.le_of_ble_eq_true rfl) (fun r12 V12 h12 => ?_)
    obtain ⟨⟨y12, rfl, hl12, hh12, hI12_0, hI12_1⟩, hE12⟩ := h12
    have hE12 := hE12.symm
    subst hE12
    try have hbad9 : True := trivial
    refine Jz_if_ne (tgt := 21) jEq.rf dX7_about_15 (by decide) (fun c15 => ?_) (fun c15 => ?_)
    · have q15_0 := hI12_0.of (by omega)
      try simp only [he9.eq, he10.eq] at q15_0
      exact False.elim (by omega)
    · have q15_1 := hI12_1.of (by omega)
      try simp only [he9.eq, he10.eq] at q15_1
      refine Jz_bipush (-2) dX7_about_18 (by decide) (fun y18 he18 => ?_)
      exact J_ret (r := some (.int _)) dX7_about_20 ⟨rfl, _, rfl, rfl⟩ (⟨⟨_, rfl, (j_rng _).1, (j_rng _).2, (by (try simp only [he18.eq, true_and, and_true]) <;> omega)⟩, rfl⟩)
