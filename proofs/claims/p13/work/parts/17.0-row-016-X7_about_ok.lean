set_option maxRecDepth 100000 in
set_option maxHeartbeats 8000000 in
theorem w_X7_about_ok {tS : jTS} (d : Nat) (V0 : jH) (a0 : Nat) (x1 : Int32) (x2 : Int32) (v0 : Int32) (gr : Nat) (mn : Nat) (sp : Nat) (rw : Nat) (px : Nat) (py : Nat) (pz : Nat) (GA : Nat → Int32) (MN : Nat → Int32) (SP : Nat → Int32) (RW : Nat → Int32) (PX : Nat → Int32) (PY : Nat → Int32) (PZ : Nat → Int32) (hd : 2 ≤ d) (hW : WT V0) (ha0 : jis V0 (.inr 5) a0) (hf_v0 : jfI V0 a0 5 0 v0) (hr_gr : jfR V0 a0 5 1 gr) (hr_mn : jfR V0 a0 5 2 mn) (hr_sp : jfR V0 a0 5 3 sp) (hr_rw : jfR V0 a0 5 4 rw) (hr_px : jfR V0 a0 5 6 px) (hr_py : jfR V0 a0 5 7 py) (hr_pz : jfR V0 a0 5 8 pz) (ha_GA : V0 gr = some (.inl (14, 16, .inl GA))) (ha_MN : V0 mn = some (.inl (15, 16, .inl MN))) (ha_SP : V0 sp = some (.inl (16, 960, .inl SP))) (ha_RW : V0 rw = some (.inl (17, 120, .inl RW))) (ha_PX : V0 px = some (.inl (18, 121, .inl PX))) (ha_PY : V0 py = some (.inl (19, 121, .inl PY))) (ha_PZ : V0 pz = some (.inl (20, 121, .inl PZ))) (hp0 : 0 ≤ x1.toInt) (hp1 : x1.toInt < v0.toInt) (hp2 : 0 ≤ x2.toInt) (hp3 : x2.toInt ≤ 7) : jTot tS mX7_about d [.ref a0, .int x1, .int x2] V0 0 0 (fun r V => (jPost [.inr 5, .inl 17, .inl 18, .inl 19, .inl 20] V0 (fun r _ => ∃ y : Int32, r = some (.int y) ∧ ((-2147483648) ≤ y.toInt) ∧ (y.toInt ≤ 2147483647) ∧ (∃ S2 X2 Y2 Z2 : Nat → Int32, jrv (GA x1.toInt.toNat).toInt (fun q => (SP (60 * x1.toInt.toNat + q)).toInt) (MN x1.toInt.toNat).toInt.toNat X2 Y2 Z2 ∧ (∀ j : Nat, j < (MN x1.toInt.toNat).toInt.toNat → S2 j = SP (60 * x1.toInt.toNat + j)) ∧ y.toInt = jab8 (GA x1.toInt.toNat).toInt (MN x1.toInt.toNat).toInt S2 X2 Y2 Z2 x2.toInt))) r V ∧ jkc 5 [0, 23, 24] V0 V) := by
  refine jTot.of_J [some (.ref a0), some (.int x1), some (.int x2), none, none, none] moX7_about (Nat.le_of_ble_eq_true rfl) rfl ?_
  have hrx1 := j_rng x1
  have hrx2 := j_rng x2
  have he : jeff [.inr 5, .inl 17, .inl 18, .inl 19, .inl 20] V0 V0 := jeff.refl _ _
  have hkp : jkc 5 [0, 23, 24] V0 V0 := jkc.rf
  obtain ⟨fs_a0, hO_a0, hK_a0⟩ := WT_obj hW id ha0
  have hF_v0 := hf_v0.get hO_a0
  have hrv0 : 0 ≤ v0.toInt ∧ v0.toInt ≤ 16 := jok_rngI hK_a0 rfl hF_v0
  have hF_gr := hr_gr.get hO_a0
  obtain ⟨w_gr, hFq_gr, b_gr, hbq_gr, hb_gr⟩ := hK_a0.2 1 (.inr (some (.inl 14))) rfl
  cases hF_gr.symm.trans (hFq_gr.trans (congrArg some hbq_gr))
  have hF_mn := hr_mn.get hO_a0
  obtain ⟨w_mn, hFq_mn, b_mn, hbq_mn, hb_mn⟩ := hK_a0.2 2 (.inr (some (.inl 15))) rfl
  cases hF_mn.symm.trans (hFq_mn.trans (congrArg some hbq_mn))
  have hF_sp := hr_sp.get hO_a0
  obtain ⟨w_sp, hFq_sp, b_sp, hbq_sp, hb_sp⟩ := hK_a0.2 3 (.inr (some (.inl 16))) rfl
  cases hF_sp.symm.trans (hFq_sp.trans (congrArg some hbq_sp))
  have hF_rw := hr_rw.get hO_a0
  obtain ⟨w_rw, hFq_rw, b_rw, hbq_rw, hb_rw⟩ := hK_a0.2 4 (.inr (some (.inl 17))) rfl
  cases hF_rw.symm.trans (hFq_rw.trans (congrArg some hbq_rw))
  have hF_px := hr_px.get hO_a0
  obtain ⟨w_px, hFq_px, b_px, hbq_px, hb_px⟩ := hK_a0.2 6 (.inr (some (.inl 18))) rfl
  cases hF_px.symm.trans (hFq_px.trans (congrArg some hbq_px))
  have hF_py := hr_py.get hO_a0
  obtain ⟨w_py, hFq_py, b_py, hbq_py, hb_py⟩ := hK_a0.2 7 (.inr (some (.inl 19))) rfl
  cases hF_py.symm.trans (hFq_py.trans (congrArg some hbq_py))
  have hF_pz := hr_pz.get hO_a0
  obtain ⟨w_pz, hFq_pz, b_pz, hbq_pz, hb_pz⟩ := hK_a0.2 8 (.inr (some (.inl 20))) rfl
  cases hF_pz.symm.trans (hFq_pz.trans (congrArg some hbq_pz))
  obtain ⟨hN_GA, hv_GA⟩ := WT_rngI (r := (0, 3)) hW id rfl ha_GA
  clear hN_GA
  obtain ⟨hN_MN, hv_MN⟩ := WT_rngI (r := (0, 60)) hW id rfl ha_MN
  clear hN_MN
  obtain ⟨hN_SP, hv_SP⟩ := WT_rngI (r := ((-2147483648), 2147483647)) hW id rfl ha_SP
  clear hN_SP
  obtain ⟨hN_RW, hv_RW⟩ := WT_rngI (r := ((-2147483648), 2147483647)) hW id rfl ha_RW
  clear hN_RW
  obtain ⟨hN_PX, hv_PX⟩ := WT_rngI (r := ((-2147483648), 2147483647)) hW id rfl ha_PX
  clear hN_PX
  obtain ⟨hN_PY, hv_PY⟩ := WT_rngI (r := ((-2147483648), 2147483647)) hW id rfl ha_PY
  clear hN_PY
  obtain ⟨hN_PZ, hv_PZ⟩ := WT_rngI (r := ((-2147483648), 2147483647)) hW id rfl ha_PZ
  clear hN_PZ
  refine J_aload_n dX7_about_0 rfl ?_
  refine J_iload_n dX7_about_1 rfl ?_
  refine Jw_callV1 (q9 := (RX7, TX7, 34)) moX7_isWalk jw_ml_X7_130 jw_im_X7_isWalk jw_se_X7_isWalk ha0 rfl rfl dX7_about_2 (w_X7_isWalk_z (d - 1) _ a0 x1 v0 (by omega) hW  ha0 ⟨_, hO_a0, hF_v0⟩) (by omega) (Nat.zero_le _) (Nat.zero_le _) (Nat.le_of_ble_eq_true rfl) (fun r2 V2 h2 => ?_)
  obtain ⟨⟨y2, rfl, hl2, hh2, hP2_0⟩, hE2⟩ := h2
  have hE2 := hE2.symm
  subst hE2
  refine Jz_if_eq (tgt := 18) jEq.rf dX7_about_5 (by decide) (fun c5 => ?_) (fun c5 => ?_)
  · exact False.elim (by omega)
  · refine J_iload_n dX7_about_8 rfl ?_
    refine Jz_iconst 0 dX7_about_9 (by decide) (fun y9 he9 => ?_)
    refine Jz_bipush 7 dX7_about_10 (by decide) (fun y10 he10 => ?_)
    refine J_callS3 moX7_in jw_ml_X7_105 jw_st_X7_in dX7_about_12 (w_X7_in (d - 1) _ x2 y9 y10 (by omega)   ) (by omega) (Nat.zero_le _) (Nat.zero_le _) (Nat.le_of_ble_eq_true rfl) (fun r12 V12 h12 => ?_)
    obtain ⟨⟨y12, rfl, hl12, hh12, hI12_0, hI12_1⟩, hE12⟩ := h12
    have hE12 := hE12.symm
    subst hE12
    refine Jz_if_ne (tgt := 21) jEq.rf dX7_about_15 (by decide) (fun c15 => ?_) (fun c15 => ?_)
    · have q15_0 := hI12_0.of (by omega)
      try simp only [he9.eq, he10.eq] at q15_0
      refine J_aload_n dX7_about_21 rfl ?_
      refine J_get jf_X7_7 dX7_about_22 hO_a0 hF_gr ?_
      refine J_iload_n dX7_about_25 rfl ?_
      refine Jz_iald (r := (0, 3)) jEq.rf dX7_about_26 ha_GA rfl hv_GA (by omega) (by omega) (fun y26 hf26 hl26 hh26 => ?_)
      dsimp only at hl26 hh26
      have hq26 : (GA x1.toInt.toNat).toInt = y26.toInt := by rw [hf26]
      refine J_istore_n dX7_about_27 rfl (by decide) ?_
      refine J_aload_n dX7_about_28 rfl ?_
      refine J_iload_n dX7_about_29 rfl ?_
      have hmr := hv_MN x1.toInt.toNat (by omega)
      dsimp only at hmr
      refine Jw_callV1 (q9 := (RX7, TX7, 34)) moX7_brings jw_ml_X7_137 jw_im_X7_brings jw_se_X7_brings ha0 rfl rfl dX7_about_30 (w_X7_brings_z (d - 1) _ a0 x1 mn sp rw MN SP RW (by omega) hW  ha0 ⟨_, hO_a0, hF_mn⟩ ⟨_, hO_a0, hF_sp⟩ ⟨_, hO_a0, hF_rw⟩ ha_MN ha_SP ha_RW (by omega) (by omega)) (by omega) (Nat.zero_le _) (Nat.zero_le _) (Nat.le_of_ble_eq_true rfl) (fun r30 V30 h30 => ?_)
      obtain ⟨h30, hX30_0, hX30_1, ⟨fv30_0, hfv30_0, hfp30_0⟩⟩ := h30
      obtain ⟨hW, hx30, hr30⟩ := h30
      have he := he.trans (hx30.sub (jsub_of rfl))
      have hkp := hkp.trans hX30_1
      have ha0 := ha0.mono hx30.1
      have hb_gr := hb_gr.mono hx30.1
      have hb_mn := hb_mn.mono hx30.1
      have hb_sp := hb_sp.mono hx30.1
      have hb_rw := hb_rw.mono hx30.1
      have hb_px := hb_px.mono hx30.1
      have hb_py := hb_py.mono hx30.1
      have hb_pz := hb_pz.mono hx30.1
      obtain ⟨fs30a0, hOfs30a0, hRfs30a0⟩ := hx30.1.keep hO_a0
      have hKfs30a0 : jokO _ (jFs 5) fs30a0 := hW _ _ id hOfs30a0
      have hFfs30a0_1 := hRfs30a0 _ _ hF_gr
      have hFfs30a0_2 := hRfs30a0 _ _ hF_mn
      have hFfs30a0_3 := hRfs30a0 _ _ hF_sp
      have hFfs30a0_4 := hRfs30a0 _ _ hF_rw
      have hFfs30a0_6 := hRfs30a0 _ _ hF_px
      have hFfs30a0_7 := hRfs30a0 _ _ hF_py
      have hFfs30a0_8 := hRfs30a0 _ _ hF_pz
      have ha_GA := hx30.2 _ _ ha_GA (jnot_of rfl)
      have ha_MN := hx30.2 _ _ ha_MN (jnot_of rfl)
      have ha_SP := hx30.2 _ _ ha_SP (jnot_of rfl)
      have ha_PX := hx30.2 _ _ ha_PX (jnot_of rfl)
      have ha_PY := hx30.2 _ _ ha_PY (jnot_of rfl)
      have ha_PZ := hx30.2 _ _ ha_PZ (jnot_of rfl)
      cases hr30
      have hFv30_0 := hfv30_0.get hOfs30a0
      have hzf30_0 : jEq fv30_0.toInt ((MN (x1.toInt).toNat).toInt) := hfp30_0
      clear hfp30_0
      obtain ⟨R2, hR2, hRe⟩ := hX30_0
      obtain ⟨hN_R2, hv_R2⟩ := WT_rngI (r := ((-2147483648), 2147483647)) hW id rfl hR2
      clear hN_R2
      refine J_aload_n dX7_about_33 rfl ?_
      refine J_iload_n dX7_about_34 rfl ?_
      refine Jw_callV1 (q9 := (RX7, TX7, 34)) moX7_goes jw_ml_X7_122 jw_im_X7_goes jw_se_X7_goes ha0 rfl rfl dX7_about_35 (w_X7_goes_z (d - 1) _ a0 y26 fv30_0 rw px py pz R2 PX PY PZ (by omega) hW  ha0 ⟨_, hOfs30a0, hFv30_0⟩ ⟨_, hOfs30a0, hFfs30a0_4⟩ ⟨_, hOfs30a0, hFfs30a0_6⟩ ⟨_, hOfs30a0, hFfs30a0_7⟩ ⟨_, hOfs30a0, hFfs30a0_8⟩ hR2 ha_PX ha_PY ha_PZ (by omega) (by omega)) (by omega) (Nat.zero_le _) (Nat.zero_le _) (Nat.le_of_ble_eq_true rfl) (fun r35 V35 h35 => ?_)
      obtain ⟨h35, hX35_0⟩ := h35
      obtain ⟨hW, hx35, hr35⟩ := h35
      have he := he.trans (hx35.sub (jsub_of rfl))
      have hkp := hkp.trans (jkc.of hx35 (jnot_of rfl))
      have ha0 := ha0.mono hx35.1
      have hb_gr := hb_gr.mono hx35.1
      have hb_mn := hb_mn.mono hx35.1
      have hb_sp := hb_sp.mono hx35.1
      have hb_rw := hb_rw.mono hx35.1
      have hb_px := hb_px.mono hx35.1
      have hb_py := hb_py.mono hx35.1
      have hb_pz := hb_pz.mono hx35.1
      have hOfs30a0 := hx35.2 _ _ hOfs30a0 (jnot_of rfl)
      have hKfs30a0 := hKfs30a0.mono hx35.1
      have ha_GA := hx35.2 _ _ ha_GA (jnot_of rfl)
      have ha_MN := hx35.2 _ _ ha_MN (jnot_of rfl)
      have ha_SP := hx35.2 _ _ ha_SP (jnot_of rfl)
      have hR2 := hx35.2 _ _ hR2 (jnot_of rfl)
      obtain ⟨y35, rfl, hl35, hh35, hP35_0⟩ := hr35
      try simp only [hzf30_0.eq] at hP35_0
      obtain ⟨X9, Y9, Z9, hX9, hY9, hZ9, hjv⟩ := hX35_0
      simp only [hzf30_0.eq, ← hq26] at hjv
      have hjw : jrv (GA x1.toInt.toNat).toInt (fun q => (SP (60 * x1.toInt.toNat + q)).toInt) (MN x1.toInt.toNat).toInt.toNat X9 Y9 Z9 := hjv.congr (fun k hk => by show (R2 k).toInt = _; rw [hRe k (by omega)])
      have hjb := hjw.b (MN x1.toInt.toNat).toInt.toNat (Nat.le_refl _)
      have hz0 : y26.toInt = 3 ∨ (Z9 (MN x1.toInt.toNat).toInt.toNat).toInt = 0 := (Int.decEq y26.toInt 3).byCases Or.inl (fun q => Or.inr (hjw.z0 (by rw [hq26]; exact q) (Nat.le_refl _)))
      have hx00 : (X9 0).toInt = 0 := (hjw 0 (Nat.zero_le _)).1
      have hy00 : (Y9 0).toInt = 0 := (hjw 0 (Nat.zero_le _)).2.1
      obtain ⟨hN_X9, hv_X9⟩ := WT_rngI (r := ((-2147483648), 2147483647)) hW id rfl hX9
      clear hN_X9
      obtain ⟨hN_Y9, hv_Y9⟩ := WT_rngI (r := ((-2147483648), 2147483647)) hW id rfl hY9
      clear hN_Y9
      obtain ⟨hN_Z9, hv_Z9⟩ := WT_rngI (r := ((-2147483648), 2147483647)) hW id rfl hZ9
      clear hN_Z9
      refine J_pop dX7_about_38 rfl ?_
      refine Jz_iconst 0 dX7_about_39 (by decide) (fun y39 he39 => ?_)
      refine J_istore dX7_about_40 rfl (by decide) ?_
      refine J_iload_n dX7_about_42 rfl ?_
      rcases jsw6 x2 with hx43 | hx43 | hx43 | hx43 | hx43 | hx43 | hx43 | hx43 | hx43
      · have hx43t : x2.toInt = 0 := by rw [hx43]; rfl
        clear hx43
        refine J_tableIn (tgt := 84) dX7_about_43 (by omega) (by omega) (by rw [hx43t]; rfl) (by decide) ?_
        refine J_iload_n dX7_about_84 rfl ?_
        exact J_ret (r := some (.int _)) dX7_about_85 ⟨rfl, _, rfl, rfl⟩ (⟨⟨hW, he, ⟨_, rfl, (j_rng _).1, (j_rng _).2, ⟨R2, X9, Y9, Z9, hjw, fun j hj => hRe j (by omega), (by rw [hq26]; rw [hx43t]; rfl)⟩⟩⟩, hkp⟩)
      · have hx43t : x2.toInt = 1 := by rw [hx43]; rfl
        clear hx43
        refine J_tableIn (tgt := 86) dX7_about_43 (by omega) (by omega) (by rw [hx43t]; rfl) (by decide) ?_
        refine J_aload_n dX7_about_86 rfl ?_
        refine J_get jf_X7_109 dX7_about_87 hOfs30a0 hFv30_0 ?_
        exact J_ret (r := some (.int _)) dX7_about_90 ⟨rfl, _, rfl, rfl⟩ (⟨⟨hW, he, ⟨_, rfl, (j_rng _).1, (j_rng _).2, ⟨R2, X9, Y9, Z9, hjw, fun j hj => hRe j (by omega), (by rw [hq26]; rw [hx43t]; exact hzf30_0.eq)⟩⟩⟩, hkp⟩)
      · have hx43t : x2.toInt = 2 := by rw [hx43]; rfl
        clear hx43
        refine J_tableIn (tgt := 91) dX7_about_43 (by omega) (by omega) (by rw [hx43t]; rfl) (by decide) ?_
        refine J_iload_n dX7_about_91 rfl ?_
        refine J_aload_n dX7_about_92 rfl ?_
        refine J_get jf_X7_22 dX7_about_93 hOfs30a0 hFfs30a0_6 ?_
        refine J_aload_n dX7_about_96 rfl ?_
        refine J_get jf_X7_109 dX7_about_97 hOfs30a0 hFv30_0 ?_
        refine Jz_iald (r := ((-2147483648), 2147483647)) hzf30_0 dX7_about_100 hX9 rfl hv_X9 (by omega) (by omega) (fun y100 hf100 hl100 hh100 => ?_)
        dsimp only at hl100 hh100
        clear hl100 hh100
        have e100 : (X9 (MN x1.toInt.toNat).toInt.toNat).toInt = y100.toInt := by rw [hf100]
        refine J_aload_n dX7_about_101 rfl ?_
        refine J_get jf_X7_25 dX7_about_102 hOfs30a0 hFfs30a0_7 ?_
        refine J_aload_n dX7_about_105 rfl ?_
        refine J_get jf_X7_109 dX7_about_106 hOfs30a0 hFv30_0 ?_
        refine Jz_iald (r := ((-2147483648), 2147483647)) hzf30_0 dX7_about_109 hY9 rfl hv_Y9 (by omega) (by omega) (fun y109 hf109 hl109 hh109 => ?_)
        dsimp only at hl109 hh109
        clear hl109 hh109
        have e109 : (Y9 (MN x1.toInt.toNat).toInt.toNat).toInt = y109.toInt := by rw [hf109]
        refine J_aload_n dX7_about_110 rfl ?_
        refine J_get jf_X7_28 dX7_about_111 hOfs30a0 hFfs30a0_8 ?_
        refine J_aload_n dX7_about_114 rfl ?_
        refine J_get jf_X7_109 dX7_about_115 hOfs30a0 hFv30_0 ?_
        refine Jz_iald (r := ((-2147483648), 2147483647)) hzf30_0 dX7_about_118 hZ9 rfl hv_Z9 (by omega) (by omega) (fun y118 hf118 hl118 hh118 => ?_)
        dsimp only at hl118 hh118
        clear hl118 hh118
        have e118 : (Z9 (MN x1.toInt.toNat).toInt.toNat).toInt = y118.toInt := by rw [hf118]
        refine J_callS4 moX7_square jw_ml_X7_152 jw_st_X7_square dX7_about_119 (w_X7_square_z (d - 1) _ y26 y100 y109 y118 (by omega)   (by omega) (by omega) (by omega) (by omega) (by omega) (by omega)) (by omega) (Nat.zero_le _) (Nat.zero_le _) (Nat.le_of_ble_eq_true rfl) (fun r119 V119 h119 => ?_)
        obtain ⟨⟨y119, rfl, hl119, hh119, hP119_0⟩, hE119⟩ := h119
        have hE119 := hE119.symm
        subst hE119
        clear hl119 hh119
        have hz119 : jEq y119.toInt (jsq (y26.toInt) (y100.toInt) (y109.toInt) (y118.toInt)) := hP119_0
        clear hP119_0
        exact J_ret (r := some (.int _)) dX7_about_122 ⟨rfl, _, rfl, rfl⟩ (⟨⟨hW, he, ⟨_, rfl, (j_rng _).1, (j_rng _).2, ⟨R2, X9, Y9, Z9, hjw, fun j hj => hRe j (by omega), (by rw [hq26]; rw [hx43t, hz119.eq, ← e100, ← e109, ← e118]; rfl)⟩⟩⟩, hkp⟩)
      · have hx43t : x2.toInt = 3 := by rw [hx43]; rfl
        clear hx43
        refine J_tableIn (tgt := 123) dX7_about_43 (by omega) (by omega) (by rw [hx43t]; rfl) (by decide) ?_
        refine J_aload_n dX7_about_123 rfl ?_
        refine J_iload_n dX7_about_124 rfl ?_
        refine Jw_callV1 (q9 := (RX7, TX7, 34)) moX7_isRing jw_ml_X7_156 jw_im_X7_isRing jw_se_X7_isRing ha0 rfl rfl dX7_about_125 (w_X7_isRing_z (d - 1) _ a0 y26 fv30_0 px py pz X9 Y9 Z9 (by omega) hW  ha0 ⟨_, hOfs30a0, hFv30_0⟩ ⟨_, hOfs30a0, hFfs30a0_6⟩ ⟨_, hOfs30a0, hFfs30a0_7⟩ ⟨_, hOfs30a0, hFfs30a0_8⟩ hX9 hY9 hZ9 (by omega) (by omega) (by (try simp only [hzf30_0.eq, true_and, and_true]) <;> omega) (by (try simp only [hzf30_0.eq, true_and, and_true]) <;> omega) (by (try simp only [hzf30_0.eq, true_and, and_true]) <;> omega) (by (try simp only [hzf30_0.eq, true_and, and_true]) <;> omega) (by (try simp only [hzf30_0.eq, true_and, and_true]) <;> omega) (by (try simp only [hzf30_0.eq, true_and, and_true]) <;> omega) (by (try simp only [hzf30_0.eq, true_and, and_true]) <;> omega)) (by omega) (Nat.zero_le _) (Nat.zero_le _) (Nat.le_of_ble_eq_true rfl) (fun r125 V125 h125 => ?_)
        obtain ⟨⟨y125, rfl, hl125, hh125, hP125_0⟩, hE125⟩ := h125
        have hE125 := hE125.symm
        subst hE125
        try simp only [hzf30_0.eq] at hP125_0
        refine Jz_if_eq (tgt := 135) jEq.rf dX7_about_128 (by decide) (fun c128 => ?_) (fun c128 => ?_)
        · refine Jz_iconst 0 dX7_about_135 (by decide) (fun y135 he135 => ?_)
          exact J_ret (r := some (.int _)) dX7_about_136 ⟨rfl, _, rfl, rfl⟩ (⟨⟨hW, he, ⟨_, rfl, (j_rng _).1, (j_rng _).2, ⟨R2, X9, Y9, Z9, hjw, fun j hj => hRe j (by omega), (by rw [hq26]; rw [hx43t, he135.eq]; exact (jpb_no (P := (jrngP y26.toInt (MN x1.toInt.toNat).toInt X9 Y9 Z9)) (hP125_0.elim (fun q => by omega) (fun q => q.2))).symm)⟩⟩⟩, hkp⟩)
        · refine Jz_iconst 1 dX7_about_131 (by decide) (fun y131 he131 => ?_)
          refine J_goto (tgt := 136) dX7_about_132 (by decide) ?_
          exact J_ret (r := some (.int _)) dX7_about_136 ⟨rfl, _, rfl, rfl⟩ (⟨⟨hW, he, ⟨_, rfl, (j_rng _).1, (j_rng _).2, ⟨R2, X9, Y9, Z9, hjw, fun j hj => hRe j (by omega), (by rw [hq26]; rw [hx43t, he131.eq]; exact (jpb_yes (P := (jrngP y26.toInt (MN x1.toInt.toNat).toInt X9 Y9 Z9)) (hP125_0.elim (fun q => q.2) (fun q => absurd q.1 c128))).symm)⟩⟩⟩, hkp⟩)
      · have hx43t : x2.toInt = 4 := by rw [hx43]; rfl
        clear hx43
        refine J_tableIn (tgt := 137) dX7_about_43 (by omega) (by omega) (by rw [hx43t]; rfl) (by decide) ?_
        refine J_iload_n dX7_about_137 rfl ?_
        refine Jz_iconst 3 dX7_about_138 (by decide) (fun y138 he138 => ?_)
        refine Jz_icmp_eq (tgt := 150) jEq.rf he138 dX7_about_139 (by decide) (fun c139 => ?_) (fun c139 => ?_)
        · refine Jz_iconst (-1) dX7_about_150 (by decide) (fun y150 he150 => ?_)
          refine J_goto (tgt := 158) dX7_about_151 (by decide) ?_
          exact J_ret (r := some (.int _)) dX7_about_158 ⟨rfl, _, rfl, rfl⟩ (⟨⟨hW, he, ⟨_, rfl, (j_rng _).1, (j_rng _).2, ⟨R2, X9, Y9, Z9, hjw, fun j hj => hRe j (by omega), (by rw [hq26]; rw [hx43t, jab8_4, if_neg (fun q => q.2 c139)]; exact he150.eq)⟩⟩⟩, hkp⟩)
        · refine J_aload_n dX7_about_142 rfl ?_
          refine J_iload_n dX7_about_143 rfl ?_
          refine Jw_callV1 (q9 := (RX7, TX7, 34)) moX7_isRing jw_ml_X7_156 jw_im_X7_isRing jw_se_X7_isRing ha0 rfl rfl dX7_about_144 (w_X7_isRing_z (d - 1) _ a0 y26 fv30_0 px py pz X9 Y9 Z9 (by omega) hW  ha0 ⟨_, hOfs30a0, hFv30_0⟩ ⟨_, hOfs30a0, hFfs30a0_6⟩ ⟨_, hOfs30a0, hFfs30a0_7⟩ ⟨_, hOfs30a0, hFfs30a0_8⟩ hX9 hY9 hZ9 (by omega) (by omega) (by (try simp only [hzf30_0.eq, true_and, and_true]) <;> omega) (by (try simp only [hzf30_0.eq, true_and, and_true]) <;> omega) (by (try simp only [hzf30_0.eq, true_and, and_true]) <;> omega) (by (try simp only [hzf30_0.eq, true_and, and_true]) <;> omega) (by (try simp only [hzf30_0.eq, true_and, and_true]) <;> omega) (by (try simp only [hzf30_0.eq, true_and, and_true]) <;> omega) (by (try simp only [hzf30_0.eq, true_and, and_true]) <;> omega)) (by omega) (Nat.zero_le _) (Nat.zero_le _) (Nat.le_of_ble_eq_true rfl) (fun r144 V144 h144 => ?_)
          obtain ⟨⟨y144, rfl, hl144, hh144, hP144_0⟩, hE144⟩ := h144
          have hE144 := hE144.symm
          subst hE144
          try simp only [hzf30_0.eq] at hP144_0
          refine Jz_if_ne (tgt := 154) jEq.rf dX7_about_147 (by decide) (fun c147 => ?_) (fun c147 => ?_)
          · refine J_aload_n dX7_about_154 rfl ?_
            refine Jw_callV0 (q9 := (RX7, TX7, 34)) moX7_area jw_ml_X7_159 jw_im_X7_area jw_se_X7_area ha0 rfl rfl dX7_about_155 (w_X7_area_z (d - 1) _ a0 fv30_0 px py X9 Y9 (by omega) hW  ha0 ⟨_, hOfs30a0, hFv30_0⟩ ⟨_, hOfs30a0, hFfs30a0_6⟩ ⟨_, hOfs30a0, hFfs30a0_7⟩ hX9 hY9 (by omega) (by omega)) (by omega) (Nat.zero_le _) (Nat.zero_le _) (Nat.le_of_ble_eq_true rfl) (fun r155 V155 h155 => ?_)
            obtain ⟨⟨y155, rfl, hl155, hh155, hP155_0⟩, hE155⟩ := h155
            have hE155 := hE155.symm
            subst hE155
            clear hl155 hh155
            try simp only [hzf30_0.eq] at hP155_0
            have hz155 : jEq y155.toInt ((jab (jar X9 Y9 ((MN (x1.toInt).toNat).toInt).toNat)).toInt) := hP155_0
            clear hP155_0
            exact J_ret (r := some (.int _)) dX7_about_158 ⟨rfl, _, rfl, rfl⟩ (⟨⟨hW, he, ⟨_, rfl, (j_rng _).1, (j_rng _).2, ⟨R2, X9, Y9, Z9, hjw, fun j hj => hRe j (by omega), (by rw [hq26]; rw [hx43t, jab8_4, if_pos ⟨jpb_yes (P := (jrngP y26.toInt (MN x1.toInt.toNat).toInt X9 Y9 Z9)) (hP144_0.elim (fun q => q.2) (fun q => absurd q.1 c147)), c139⟩]; exact hz155.eq)⟩⟩⟩, hkp⟩)
          · refine Jz_iconst (-1) dX7_about_150 (by decide) (fun y150 he150 => ?_)
            refine J_goto (tgt := 158) dX7_about_151 (by decide) ?_
            exact J_ret (r := some (.int _)) dX7_about_158 ⟨rfl, _, rfl, rfl⟩ (⟨⟨hW, he, ⟨_, rfl, (j_rng _).1, (j_rng _).2, ⟨R2, X9, Y9, Z9, hjw, fun j hj => hRe j (by omega), (by rw [hq26]; rw [hx43t, jab8_4, if_neg (fun q => by have q3 := jpb_no (P := (jrngP y26.toInt (MN x1.toInt.toNat).toInt X9 Y9 Z9)) (hP144_0.elim (fun q => by omega) (fun q => q.2)); omega)]; exact he150.eq)⟩⟩⟩, hkp⟩)
      · have hx43t : x2.toInt = 5 := by rw [hx43]; rfl
        clear hx43
        refine J_tableIn (tgt := 159) dX7_about_43 (by omega) (by omega) (by rw [hx43t]; rfl) (by decide) ?_
        refine Jz_iconst 1 dX7_about_159 (by decide) (fun y159 he159 => ?_)
        refine J_istore dX7_about_160 rfl (by decide) ?_
        have L162 : ∀ (N : Nat) (i4n162 : Int32) (i5n162 : Int32), (1 ≤ i5n162.toInt ∧ (i5n162.toInt ≤ (MN x1.toInt.toNat).toInt ∨ i5n162.toInt = 1)) → (i4n162.toInt = jbn R2 i5n162.toInt.toNat) → (300 - i5n162.toInt).toNat < N → J tS mX7_about d 162 [some (.ref a0), some (.int x1), some (.int x2), some (.int y26), some (.int i4n162), some (.int i5n162)] [] V35 0 0 (fun r V => (jPost [.inr 5, .inl 17, .inl 18, .inl 19, .inl 20] V0 (fun r _ => ∃ y : Int32, r = some (.int y) ∧ ((-2147483648) ≤ y.toInt) ∧ (y.toInt ≤ 2147483647) ∧ (∃ S2 X2 Y2 Z2 : Nat → Int32, jrv (GA x1.toInt.toNat).toInt (fun q => (SP (60 * x1.toInt.toNat + q)).toInt) (MN x1.toInt.toNat).toInt.toNat X2 Y2 Z2 ∧ (∀ j : Nat, j < (MN x1.toInt.toNat).toInt.toNat → S2 j = SP (60 * x1.toInt.toNat + j)) ∧ y.toInt = jab8 (GA x1.toInt.toNat).toInt (MN x1.toInt.toNat).toInt S2 X2 Y2 Z2 x2.toInt))) r V ∧ jkc 5 [0, 23, 24] V0 V) := by
          intro N
          induction N with
          | zero => intro i4n162 i5n162  hi5 hbn hm; exact absurd hm (Nat.not_lt_zero _)
          | succ N ih =>
            intro i4n162 i5n162  hi5 hbn hm
            have ih162 := ih
            have hri5 := j_rng i5n162
            have hjb2 := jbn_b (S := R2) i5n162.toInt.toNat
            refine J_iload dX7_about_162 rfl ?_
            refine J_aload_n dX7_about_164 rfl ?_
            refine J_get jf_X7_109 dX7_about_165 hOfs30a0 hFv30_0 ?_
            refine Jz_icmp_ge (tgt := 206) jEq.rf hzf30_0 dX7_about_168 (by decide) (fun c168 => ?_) (fun c168 => ?_)
            · refine J_iload dX7_about_206 rfl ?_
              exact J_ret (r := some (.int _)) dX7_about_208 ⟨rfl, _, rfl, rfl⟩ (⟨⟨hW, he, ⟨_, rfl, (j_rng _).1, (j_rng _).2, ⟨R2, X9, Y9, Z9, hjw, fun j hj => hRe j (by omega), (by rw [hq26]; rw [hx43t, hbn]; rcases (show i5n162.toInt.toNat = (MN x1.toInt.toNat).toInt.toNat ∨ (i5n162.toInt.toNat = 1 ∧ (MN x1.toInt.toNat).toInt.toNat = 0) by omega) with q | q; (rw [q]; rfl); (show jbn R2 _ = jbn R2 _; rw [q.1, q.2]; rfl))⟩⟩⟩, hkp⟩)
            · refine J_iload dX7_about_171 rfl ?_
              refine J_aload_n dX7_about_173 rfl ?_
              refine J_get jf_X7_19 dX7_about_174 hOfs30a0 hFfs30a0_4 ?_
              refine J_iload dX7_about_177 rfl ?_
              refine Jz_iald (r := ((-2147483648), 2147483647)) jEq.rf dX7_about_179 hR2 rfl hv_R2 (by omega) (by omega) (fun y179 hf179 hl179 hh179 => ?_)
              dsimp only at hl179 hh179
              clear hl179 hh179
              refine J_aload_n dX7_about_180 rfl ?_
              refine J_get jf_X7_19 dX7_about_181 hOfs30a0 hFfs30a0_4 ?_
              refine J_iload dX7_about_184 rfl ?_
              refine Jz_iconst 1 dX7_about_186 (by decide) (fun y186 he186 => ?_)
              refine Jz_isub jEq.rf he186 dX7_about_187 (by omega) (by omega) (fun y187 he187 => ?_)
              refine Jz_iald (r := ((-2147483648), 2147483647)) he187 dX7_about_188 hR2 rfl hv_R2 (by omega) (by omega) (fun y188 hf188 hl188 hh188 => ?_)
              dsimp only at hl188 hh188
              clear hl188 hh188
              refine Jz_icmp_eq (tgt := 196) jEq.rf jEq.rf dX7_about_189 (by decide) (fun c189 => ?_) (fun c189 => ?_)
              · refine Jz_iconst 0 dX7_about_196 (by decide) (fun y196 he196 => ?_)
                refine Jz_iadd jEq.rf he196 dX7_about_197 (by omega) (by omega) (fun y197 he197 => ?_)
                refine J_istore dX7_about_198 rfl (by decide) ?_
                refine Jz_iinc 1 dX7_about_200 rfl rfl (by decide) jEq.rf (by decide) (by omega) (by omega) (fun y200 he200 => ?_)
                refine J_goto (tgt := 162) dX7_about_203 (by decide) ?_
                refine J.mask [true, true, true, true, true, true] ?_
                exact ih162  y197 y200  (by (try simp only [he197.eq, he200.eq, true_and, and_true]) <;> omega) (by rw [he200.eq, show (i5n162.toInt + 1).toNat = i5n162.toInt.toNat + 1 by omega, jbn_step (by omega), show i5n162.toInt.toNat - 1 = (i5n162.toInt - 1).toNat by omega, hf179, hf188, if_pos c189, he197.eq, hbn]) (by (try simp only [he197.eq, he200.eq, true_and, and_true]) <;> omega)
              · refine Jz_iconst 1 dX7_about_192 (by decide) (fun y192 he192 => ?_)
                refine J_goto (tgt := 197) dX7_about_193 (by decide) ?_
                refine Jz_iadd jEq.rf he192 dX7_about_197 (by omega) (by omega) (fun y197 he197 => ?_)
                refine J_istore dX7_about_198 rfl (by decide) ?_
                refine Jz_iinc 1 dX7_about_200 rfl rfl (by decide) jEq.rf (by decide) (by omega) (by omega) (fun y200 he200 => ?_)
                refine J_goto (tgt := 162) dX7_about_203 (by decide) ?_
                refine J.mask [true, true, true, true, true, true] ?_
                exact ih162  y197 y200  (by (try simp only [he197.eq, he200.eq, true_and, and_true]) <;> omega) (by rw [he200.eq, show (i5n162.toInt + 1).toNat = i5n162.toInt.toNat + 1 by omega, jbn_step (by omega), show i5n162.toInt.toNat - 1 = (i5n162.toInt - 1).toNat by omega, hf179, hf188, if_neg c189, he197.eq, hbn]) (by (try simp only [he197.eq, he200.eq, true_and, and_true]) <;> omega)
        refine J.mask [true, true, true, true, true, true] ?_
        exact L162 _  y39 y159    (by rw [he159.eq]; exact ⟨Int.le_refl _, Or.inr rfl⟩) (by rw [he39.eq, he159.eq]; rfl) (Nat.lt_succ_self _)
      · have hx43t : x2.toInt = 6 := by rw [hx43]; rfl
        clear hx43
        refine J_tableIn (tgt := 209) dX7_about_43 (by omega) (by omega) (by rw [hx43t]; rfl) (by decide) ?_
        refine J_aload_n dX7_about_209 rfl ?_
        refine Jw_callV0 (q9 := (RX7, TX7, 34)) moX7_isBridge jw_ml_X7_163 jw_im_X7_isBridge jw_se_X7_isBridge ha0 rfl rfl dX7_about_210 (w_X7_isBridge_z (d - 1) _ a0 fv30_0 px X9 (by omega) hW  ha0 ⟨_, hOfs30a0, hFv30_0⟩ ⟨_, hOfs30a0, hFfs30a0_6⟩ hX9) (by omega) (Nat.zero_le _) (Nat.zero_le _) (Nat.le_of_ble_eq_true rfl) (fun r210 V210 h210 => ?_)
        obtain ⟨⟨y210, rfl, hl210, hh210, hP210_0⟩, hE210⟩ := h210
        have hE210 := hE210.symm
        subst hE210
        try simp only [hzf30_0.eq] at hP210_0
        refine Jz_if_eq (tgt := 220) jEq.rf dX7_about_213 (by decide) (fun c213 => ?_) (fun c213 => ?_)
        · refine Jz_iconst 0 dX7_about_220 (by decide) (fun y220 he220 => ?_)
          exact J_ret (r := some (.int _)) dX7_about_221 ⟨rfl, _, rfl, rfl⟩ (⟨⟨hW, he, ⟨_, rfl, (j_rng _).1, (j_rng _).2, ⟨R2, X9, Y9, Z9, hjw, fun j hj => hRe j (by omega), (by rw [hq26]; rw [hx43t]; rcases hP210_0 with q | q; (first | exact absurd q.1 (by omega) | (rw [he216.eq]; exact (jpb_yes (P := jbrg (MN x1.toInt.toNat).toInt.toNat X9) q.2).symm)); (first | exact absurd q.1 c213 | (rw [he220.eq]; exact (jpb_no (P := jbrg (MN x1.toInt.toNat).toInt.toNat X9) q.2).symm)))⟩⟩⟩, hkp⟩)
        · refine Jz_iconst 1 dX7_about_216 (by decide) (fun y216 he216 => ?_)
          refine J_goto (tgt := 221) dX7_about_217 (by decide) ?_
          exact J_ret (r := some (.int _)) dX7_about_221 ⟨rfl, _, rfl, rfl⟩ (⟨⟨hW, he, ⟨_, rfl, (j_rng _).1, (j_rng _).2, ⟨R2, X9, Y9, Z9, hjw, fun j hj => hRe j (by omega), (by rw [hq26]; rw [hx43t]; rcases hP210_0 with q | q; (first | exact absurd q.1 (by omega) | (rw [he216.eq]; exact (jpb_yes (P := jbrg (MN x1.toInt.toNat).toInt.toNat X9) q.2).symm)); (first | exact absurd q.1 c213 | (rw [he220.eq]; exact (jpb_no (P := jbrg (MN x1.toInt.toNat).toInt.toNat X9) q.2).symm)))⟩⟩⟩, hkp⟩)
      · refine J_tableOut (tgt := 222) dX7_about_43 (Or.inl hx43) (by decide) ?_
        refine J_aload_n dX7_about_222 rfl ?_
        refine J_iload_n dX7_about_223 rfl ?_
        refine Jw_callV1 (q9 := (RX7, TX7, 34)) moX7_leadingOn jw_ml_X7_167 jw_im_X7_leadingOn jw_se_X7_leadingOn ha0 rfl rfl dX7_about_224 (w_X7_leadingOn_z (d - 1) _ a0 y26 fv30_0 px py pz X9 Y9 Z9 (by omega) hW  ha0 ⟨_, hOfs30a0, hFv30_0⟩ ⟨_, hOfs30a0, hFfs30a0_6⟩ ⟨_, hOfs30a0, hFfs30a0_7⟩ ⟨_, hOfs30a0, hFfs30a0_8⟩ hX9 hY9 hZ9 (by omega) (by omega) (by (try simp only [hzf30_0.eq, true_and, and_true]) <;> omega) (by (try simp only [hzf30_0.eq, true_and, and_true]) <;> omega) (by (try simp only [hzf30_0.eq, true_and, and_true]) <;> omega) (by (try simp only [hzf30_0.eq, true_and, and_true]) <;> omega) (by (try simp only [hzf30_0.eq, true_and, and_true]) <;> omega) (by (try simp only [hzf30_0.eq, true_and, and_true]) <;> omega)) (by omega) (Nat.zero_le _) (Nat.zero_le _) (Nat.le_of_ble_eq_true rfl) (fun r224 V224 h224 => ?_)
        obtain ⟨⟨y224, rfl, hl224, hh224, hP224_0⟩, hE224⟩ := h224
        have hE224 := hE224.symm
        subst hE224
        clear hl224 hh224
        try simp only [hzf30_0.eq] at hP224_0
        have hz224 : jEq y224.toInt (jct (fun d : Nat => jfree (y26.toInt) ((MN (x1.toInt).toNat).toInt).toNat X9 Y9 Z9 (d : Int)) (jdir (y26.toInt)).toNat) := hP224_0
        clear hP224_0
        exact J_ret (r := some (.int _)) dX7_about_227 ⟨rfl, _, rfl, rfl⟩ (⟨⟨hW, he, ⟨_, rfl, (j_rng _).1, (j_rng _).2, ⟨R2, X9, Y9, Z9, hjw, fun j hj => hRe j (by omega), (by rw [hq26]; rw [show x2.toInt = 7 by omega, hz224.eq]; rfl)⟩⟩⟩, hkp⟩)
      · refine J_tableOut (tgt := 222) dX7_about_43 (Or.inr hx43) (by decide) ?_
        refine J_aload_n dX7_about_222 rfl ?_
        refine J_iload_n dX7_about_223 rfl ?_
        refine Jw_callV1 (q9 := (RX7, TX7, 34)) moX7_leadingOn jw_ml_X7_167 jw_im_X7_leadingOn jw_se_X7_leadingOn ha0 rfl rfl dX7_about_224 (w_X7_leadingOn_z (d - 1) _ a0 y26 fv30_0 px py pz X9 Y9 Z9 (by omega) hW  ha0 ⟨_, hOfs30a0, hFv30_0⟩ ⟨_, hOfs30a0, hFfs30a0_6⟩ ⟨_, hOfs30a0, hFfs30a0_7⟩ ⟨_, hOfs30a0, hFfs30a0_8⟩ hX9 hY9 hZ9 (by omega) (by omega) (by (try simp only [hzf30_0.eq, true_and, and_true]) <;> omega) (by (try simp only [hzf30_0.eq, true_and, and_true]) <;> omega) (by (try simp only [hzf30_0.eq, true_and, and_true]) <;> omega) (by (try simp only [hzf30_0.eq, true_and, and_true]) <;> omega) (by (try simp only [hzf30_0.eq, true_and, and_true]) <;> omega) (by (try simp only [hzf30_0.eq, true_and, and_true]) <;> omega)) (by omega) (Nat.zero_le _) (Nat.zero_le _) (Nat.le_of_ble_eq_true rfl) (fun r224 V224 h224 => ?_)
        obtain ⟨⟨y224, rfl, hl224, hh224, hP224_0⟩, hE224⟩ := h224
        have hE224 := hE224.symm
        subst hE224
        clear hl224 hh224
        try simp only [hzf30_0.eq] at hP224_0
        have hz224 : jEq y224.toInt (jct (fun d : Nat => jfree (y26.toInt) ((MN (x1.toInt).toNat).toInt).toNat X9 Y9 Z9 (d : Int)) (jdir (y26.toInt)).toNat) := hP224_0
        clear hP224_0
        exact J_ret (r := some (.int _)) dX7_about_227 ⟨rfl, _, rfl, rfl⟩ (⟨⟨hW, he, ⟨_, rfl, (j_rng _).1, (j_rng _).2, ⟨R2, X9, Y9, Z9, hjw, fun j hj => hRe j (by omega), (by rw [hq26]; rw [show x2.toInt = 7 by omega, hz224.eq]; rfl)⟩⟩⟩, hkp⟩)
    · have q15_1 := hI12_1.of (by omega)
      try simp only [he9.eq, he10.eq] at q15_1
      exact False.elim (by omega)
