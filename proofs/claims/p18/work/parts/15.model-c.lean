set_option maxRecDepth 100000 in
set_option maxHeartbeats 8000000 in
theorem w_X7_alike_ok {tS : jTS} (d : Nat) (V0 : jH) (a0 : Nat) (x1 : Int32) (x2 : Int32) (v0 : Int32) (gr : Nat) (mn : Nat) (sp : Nat) (rw : Nat) (fm : Nat) (oh : Nat) (GA : Nat → Int32) (MN : Nat → Int32) (SP : Nat → Int32) (RW : Nat → Int32) (FM : Nat → Int32) (OH : Nat → Int32) (hd : 4 ≤ d) (hW : WT V0) (ha0 : jis V0 (.inr 5) a0) (hf_v0 : jfI V0 a0 5 0 v0) (hr_gr : jfR V0 a0 5 1 gr) (hr_mn : jfR V0 a0 5 2 mn) (hr_sp : jfR V0 a0 5 3 sp) (hr_rw : jfR V0 a0 5 4 rw) (hr_fm : jfR V0 a0 5 9 fm) (hr_oh : jfR V0 a0 5 10 oh) (ha_GA : V0 gr = some (.inl (14, 16, .inl GA))) (ha_MN : V0 mn = some (.inl (15, 16, .inl MN))) (ha_SP : V0 sp = some (.inl (16, 960, .inl SP))) (ha_RW : V0 rw = some (.inl (17, 120, .inl RW))) (ha_FM : V0 fm = some (.inl (21, 60, .inl FM))) (ha_OH : V0 oh = some (.inl (22, 60, .inl OH))) (hp0 : 0 ≤ x1.toInt) (hp1 : x1.toInt < v0.toInt) (hp2 : 0 ≤ x2.toInt) (hp3 : x2.toInt < v0.toInt) (hp4 : (GA x1.toInt.toNat).toInt = (GA x2.toInt.toNat).toInt) (hp5 : ∀ j : Nat, (j : Int) < (MN x1.toInt.toNat).toInt → 0 ≤ (SP (60 * x1.toInt.toNat + j)).toInt ∧ (SP (60 * x1.toInt.toNat + j)).toInt < jdir (GA x1.toInt.toNat).toInt) (hp6 : ∀ j : Nat, (j : Int) < (MN x2.toInt.toNat).toInt → 0 ≤ (SP (60 * x2.toInt.toNat + j)).toInt ∧ (SP (60 * x2.toInt.toNat + j)).toInt < jdir (GA x2.toInt.toNat).toInt) : jTot tS mX7_alike d [.ref a0, .int x1, .int x2] V0 0 0 (fun r V => (jPost [.inr 5, .inl 17, .inl 21, .inl 22] V0 (fun r _ => ∃ y : Int32, r = some (.int y) ∧ ((-2147483648) ≤ y.toInt) ∧ (y.toInt ≤ 2147483647) ∧ ((y.toInt = 1 ∧ (MN x1.toInt.toNat).toInt = (MN x2.toInt.toNat).toInt ∧ ∀ j : Nat, j < (MN x1.toInt.toNat).toInt.toNat → jbs (GA x1.toInt.toNat).toInt (fun q => (SP (60 * x1.toInt.toNat + q)).toInt) (MN x1.toInt.toNat).toInt.toNat (2 * jtur (GA x1.toInt.toNat).toInt).toNat j = jbs (GA x1.toInt.toNat).toInt (fun q => (SP (60 * x2.toInt.toNat + q)).toInt) (MN x2.toInt.toNat).toInt.toNat (2 * jtur (GA x1.toInt.toNat).toInt).toNat j) ∨ (y.toInt = 0 ∧ ¬ ((MN x1.toInt.toNat).toInt = (MN x2.toInt.toNat).toInt ∧ ∀ j : Nat, j < (MN x1.toInt.toNat).toInt.toNat → jbs (GA x1.toInt.toNat).toInt (fun q => (SP (60 * x1.toInt.toNat + q)).toInt) (MN x1.toInt.toNat).toInt.toNat (2 * jtur (GA x1.toInt.toNat).toInt).toNat j = jbs (GA x1.toInt.toNat).toInt (fun q => (SP (60 * x2.toInt.toNat + q)).toInt) (MN x2.toInt.toNat).toInt.toNat (2 * jtur (GA x1.toInt.toNat).toInt).toNat j))))) r V ∧ jkc 5 [0, 23, 24] V0 V) := by
  refine jTot.of_J [some (.ref a0), some (.int x1), some (.int x2), none, none, none] moX7_alike (Nat.le_of_ble_eq_true rfl) rfl ?_
  have hrx1 := j_rng x1
  have hrx2 := j_rng x2
  have he : jeff [.inr 5, .inl 17, .inl 21, .inl 22] V0 V0 := jeff.refl _ _
  have hkp : jkc 5 [0, 23, 24] V0 V0 := jkc.rf
  obtain ⟨fs_a0, hO_a0, hK_a0⟩ := WT_obj hW id ha0
  have hF_v0 := hf_v0.get hO_a0
  have hrv0 : 0 ≤ v0.toInt ∧ v0.toInt ≤ 16 := jok_rngI hK_a0 rfl hF_v0
  have hF_gr := hr_gr.get hO_a0
  obtain ⟨w_gr, hFq_gr, b_gr, hbq_gr, hb_gr⟩ := hK_a0.2 1 (.inr (some (.inl 14))) rfl
  cases hF_gr.symm.trans (hFq_gr.trans (congrArg some hbq_gr))
  have hF_mn := hr_mn.get hO_a0
  obtain ⟨w_mn, hFq_mn, b_mn, hbq_mn, hb_mn⟩ := hK_a0.2 2 (.inr (some (.inl 15))) rfl
  cases hF_mn.symm.trans (hFq_mn.trans (congrArg some hbq_mn))
  have hF_sp := hr_sp.get hO_a0
  obtain ⟨w_sp, hFq_sp, b_sp, hbq_sp, hb_sp⟩ := hK_a0.2 3 (.inr (some (.inl 16))) rfl
  cases hF_sp.symm.trans (hFq_sp.trans (congrArg some hbq_sp))
  have hF_rw := hr_rw.get hO_a0
  obtain ⟨w_rw, hFq_rw, b_rw, hbq_rw, hb_rw⟩ := hK_a0.2 4 (.inr (some (.inl 17))) rfl
  cases hF_rw.symm.trans (hFq_rw.trans (congrArg some hbq_rw))
  have hF_fm := hr_fm.get hO_a0
  obtain ⟨w_fm, hFq_fm, b_fm, hbq_fm, hb_fm⟩ := hK_a0.2 9 (.inr (some (.inl 21))) rfl
  cases hF_fm.symm.trans (hFq_fm.trans (congrArg some hbq_fm))
  have hF_oh := hr_oh.get hO_a0
  obtain ⟨w_oh, hFq_oh, b_oh, hbq_oh, hb_oh⟩ := hK_a0.2 10 (.inr (some (.inl 22))) rfl
  cases hF_oh.symm.trans (hFq_oh.trans (congrArg some hbq_oh))
  obtain ⟨hN_GA, hv_GA⟩ := WT_rngI (r := (0, 3)) hW id rfl ha_GA
  clear hN_GA
  obtain ⟨hN_MN, hv_MN⟩ := WT_rngI (r := (0, 60)) hW id rfl ha_MN
  clear hN_MN
  obtain ⟨hN_SP, hv_SP⟩ := WT_rngI (r := ((-2147483648), 2147483647)) hW id rfl ha_SP
  clear hN_SP
  obtain ⟨hN_RW, hv_RW⟩ := WT_rngI (r := ((-2147483648), 2147483647)) hW id rfl ha_RW
  clear hN_RW
  obtain ⟨hN_FM, hv_FM⟩ := WT_rngI (r := ((-2147483648), 2147483647)) hW id rfl ha_FM
  clear hN_FM
  obtain ⟨hN_OH, hv_OH⟩ := WT_rngI (r := ((-2147483648), 2147483647)) hW id rfl ha_OH
  clear hN_OH
  refine J_aload_n dX7_alike_0 rfl ?_
  refine J_iload_n dX7_alike_1 rfl ?_
  refine Jw_callV1 (q9 := (RX7, TX7, 34)) moX7_isWalk jw_ml_X7_130 jw_im_X7_isWalk jw_se_X7_isWalk ha0 rfl rfl dX7_alike_2 (w_X7_isWalk_z (d - 1) _ a0 x1 v0 (by omega) hW  ha0 ⟨_, hO_a0, hF_v0⟩) (by omega) (Nat.zero_le _) (Nat.zero_le _) (Nat.le_of_ble_eq_true rfl) (fun r2 V2 h2 => ?_)
  obtain ⟨⟨y2, rfl, hl2, hh2, hP2_0⟩, hE2⟩ := h2
  have hE2 := hE2.symm
  subst hE2
  refine Jz_if_eq (tgt := 16) jEq.rf dX7_alike_5 (by decide) (fun c5 => ?_) (fun c5 => ?_)
  · exact False.elim (by omega)
  · refine J_aload_n dX7_alike_8 rfl ?_
    refine J_iload_n dX7_alike_9 rfl ?_
    refine Jw_callV1 (q9 := (RX7, TX7, 34)) moX7_isWalk jw_ml_X7_130 jw_im_X7_isWalk jw_se_X7_isWalk ha0 rfl rfl dX7_alike_10 (w_X7_isWalk_z (d - 1) _ a0 x2 v0 (by omega) hW  ha0 ⟨_, hO_a0, hF_v0⟩) (by omega) (Nat.zero_le _) (Nat.zero_le _) (Nat.le_of_ble_eq_true rfl) (fun r10 V10 h10 => ?_)
    obtain ⟨⟨y10, rfl, hl10, hh10, hP10_0⟩, hE10⟩ := h10
    have hE10 := hE10.symm
    subst hE10
    refine Jz_if_ne (tgt := 19) jEq.rf dX7_alike_13 (by decide) (fun c13 => ?_) (fun c13 => ?_)
    · refine J_aload_n dX7_alike_19 rfl ?_
      refine J_get jf_X7_7 dX7_alike_20 hO_a0 hF_gr ?_
      refine J_iload_n dX7_alike_23 rfl ?_
      refine Jz_iald (r := (0, 3)) jEq.rf dX7_alike_24 ha_GA rfl hv_GA (by omega) (by omega) (fun y24 hf24 hl24 hh24 => ?_)
      dsimp only at hl24 hh24
      have hq24 : (GA x1.toInt.toNat).toInt = y24.toInt := by rw [hf24]
      refine J_aload_n dX7_alike_25 rfl ?_
      refine J_get jf_X7_7 dX7_alike_26 hO_a0 hF_gr ?_
      refine J_iload_n dX7_alike_29 rfl ?_
      refine Jz_iald (r := (0, 3)) jEq.rf dX7_alike_30 ha_GA rfl hv_GA (by omega) (by omega) (fun y30 hf30 hl30 hh30 => ?_)
      dsimp only at hl30 hh30
      have hq30 : (GA x2.toInt.toNat).toInt = y30.toInt := by rw [hf30]
      refine Jz_icmp_eq (tgt := 37) jEq.rf jEq.rf dX7_alike_31 (by decide) (fun c31 => ?_) (fun c31 => ?_)
      · refine J_aload_n dX7_alike_37 rfl ?_
        refine J_iload_n dX7_alike_38 rfl ?_
        have hmr := hv_MN x1.toInt.toNat (by omega)
        dsimp only at hmr
        have hmr2 := hv_MN x2.toInt.toNat (by omega)
        dsimp only at hmr2
        refine Jw_callV1 (q9 := (RX7, TX7, 34)) moX7_brings jw_ml_X7_137 jw_im_X7_brings jw_se_X7_brings ha0 rfl rfl dX7_alike_39 (w_X7_brings_z (d - 1) _ a0 x2 mn sp rw MN SP RW (by omega) hW  ha0 ⟨_, hO_a0, hF_mn⟩ ⟨_, hO_a0, hF_sp⟩ ⟨_, hO_a0, hF_rw⟩ ha_MN ha_SP ha_RW (by omega) (by omega)) (by omega) (Nat.zero_le _) (Nat.zero_le _) (Nat.le_of_ble_eq_true rfl) (fun r39 V39 h39 => ?_)
        obtain ⟨h39, hX39_0, hX39_1, ⟨fv39_0, hfv39_0, hfp39_0⟩⟩ := h39
        obtain ⟨hW, hx39, hr39⟩ := h39
        have he := he.trans (hx39.sub (jsub_of rfl))
        have hkp := hkp.trans hX39_1
        have ha0 := ha0.mono hx39.1
        have hb_gr := hb_gr.mono hx39.1
        have hb_mn := hb_mn.mono hx39.1
        have hb_sp := hb_sp.mono hx39.1
        have hb_rw := hb_rw.mono hx39.1
        have hb_fm := hb_fm.mono hx39.1
        have hb_oh := hb_oh.mono hx39.1
        obtain ⟨fs39a0, hOfs39a0, hRfs39a0⟩ := hx39.1.keep hO_a0
        have hKfs39a0 : jokO _ (jFs 5) fs39a0 := hW _ _ id hOfs39a0
        have hFfs39a0_1 := hRfs39a0 _ _ hF_gr
        have hFfs39a0_2 := hRfs39a0 _ _ hF_mn
        have hFfs39a0_3 := hRfs39a0 _ _ hF_sp
        have hFfs39a0_4 := hRfs39a0 _ _ hF_rw
        have hFfs39a0_9 := hRfs39a0 _ _ hF_fm
        have hFfs39a0_10 := hRfs39a0 _ _ hF_oh
        have ha_GA := hx39.2 _ _ ha_GA (jnot_of rfl)
        have ha_MN := hx39.2 _ _ ha_MN (jnot_of rfl)
        have ha_SP := hx39.2 _ _ ha_SP (jnot_of rfl)
        have ha_FM := hx39.2 _ _ ha_FM (jnot_of rfl)
        have ha_OH := hx39.2 _ _ ha_OH (jnot_of rfl)
        cases hr39
        have hFv39_0 := hfv39_0.get hOfs39a0
        have hzf39_0 : jEq fv39_0.toInt ((MN (x2.toInt).toNat).toInt) := hfp39_0
        clear hfp39_0
        obtain ⟨R2, hR2, hRe2⟩ := hX39_0
        obtain ⟨hN_R2, hv_R2⟩ := WT_rngI (r := ((-2147483648), 2147483647)) hW id rfl hR2
        clear hN_R2
        refine J_aload_n dX7_alike_42 rfl ?_
        refine J_aload_n dX7_alike_43 rfl ?_
        refine J_get jf_X7_7 dX7_alike_44 hOfs39a0 hFfs39a0_1 ?_
        refine J_iload_n dX7_alike_47 rfl ?_
        refine Jz_iald (r := (0, 3)) jEq.rf dX7_alike_48 ha_GA rfl hv_GA (by omega) (by omega) (fun y48 hf48 hl48 hh48 => ?_)
        dsimp only at hl48 hh48
        clear hl48 hh48
        have he48 : jEq y48.toInt (y30.toInt) := by rw [← hf48, hf30]; exact jEq.rf
        refine Jw_callV1 (q9 := (RX7, TX7, 34)) moX7_findForm jw_ml_X7_174 jw_im_X7_findForm jw_se_X7_findForm ha0 rfl rfl dX7_alike_49 (w_X7_findForm_z (d - 1) _ a0 y48 fv39_0 rw fm R2 FM (by omega) hW  ha0 ⟨_, hOfs39a0, hFv39_0⟩ ⟨_, hOfs39a0, hFfs39a0_4⟩ ⟨_, hOfs39a0, hFfs39a0_9⟩ hR2 ha_FM (by have q := he48.eq; omega) (by have q := he48.eq; omega) (by rw [hzf39_0.eq]; omega) (fun j hj => by rw [hzf39_0.eq] at hj; rw [hRe2 j hj, show y48.toInt = (GA x2.toInt.toNat).toInt by (have q := he48.eq; omega)]; exact hp6 j hj)) (by omega) (Nat.zero_le _) (Nat.zero_le _) (Nat.le_of_ble_eq_true rfl) (fun r49 V49 h49 => ?_)
        obtain ⟨h49, hX49_0⟩ := h49
        obtain ⟨hW, hx49, hr49⟩ := h49
        have he := he.trans (hx49.sub (jsub_of rfl))
        have hkp := hkp.trans (jkc.of hx49 (jnot_of rfl))
        have ha0 := ha0.mono hx49.1
        have hb_gr := hb_gr.mono hx49.1
        have hb_mn := hb_mn.mono hx49.1
        have hb_sp := hb_sp.mono hx49.1
        have hb_rw := hb_rw.mono hx49.1
        have hb_fm := hb_fm.mono hx49.1
        have hb_oh := hb_oh.mono hx49.1
        have hOfs39a0 := hx49.2 _ _ hOfs39a0 (jnot_of rfl)
        have hKfs39a0 := hKfs39a0.mono hx49.1
        have ha_GA := hx49.2 _ _ ha_GA (jnot_of rfl)
        have ha_MN := hx49.2 _ _ ha_MN (jnot_of rfl)
        have ha_SP := hx49.2 _ _ ha_SP (jnot_of rfl)
        have ha_OH := hx49.2 _ _ ha_OH (jnot_of rfl)
        have hR2 := hx49.2 _ _ hR2 (jnot_of rfl)
        cases hr49
        obtain ⟨F2, hF2, hFe2⟩ := hX49_0
        rw [hzf39_0.eq, show y48.toInt = (GA x2.toInt.toNat).toInt by (have q := he48.eq; omega)] at hFe2
        have hG2 : ∀ j : Nat, j < (MN x2.toInt.toNat).toInt.toNat → (F2 j).toInt = jbs (GA x2.toInt.toNat).toInt (fun q => (SP (60 * x2.toInt.toNat + q)).toInt) (MN x2.toInt.toNat).toInt.toNat (2 * jtur (GA x2.toInt.toNat).toInt).toNat j := fun j hj => by rw [hFe2 j hj]; exact jbs_congr (fun q hq => by show (R2 q).toInt = _; rw [hRe2 q (by omega)]) _ j hj
        obtain ⟨hN_F2, hv_F2⟩ := WT_rngI (r := ((-2147483648), 2147483647)) hW id rfl hF2
        clear hN_F2
        refine J_aload_n dX7_alike_52 rfl ?_
        refine J_get jf_X7_109 dX7_alike_53 hOfs39a0 hFv39_0 ?_
        refine J_istore_n dX7_alike_56 rfl (by decide) ?_
        refine Jz_iconst 0 dX7_alike_57 (by decide) (fun y57 he57 => ?_)
        refine J_istore dX7_alike_58 rfl (by decide) ?_
        have L60 : ∀ (N : Nat) (V : jH) (i4n60 : Int32) (F22n60 : Nat → Int32), WT V → jeff [.inr 5, .inl 17, .inl 21, .inl 22] V0 V → (jis V (.inr 5) a0) → (jis V (.inl 14) gr) → (jis V (.inl 15) mn) → (jis V (.inl 16) sp) → (jis V (.inl 17) rw) → (jis V (.inl 21) fm) → (jis V (.inl 22) oh) → (jkc 5 [0, 23, 24] V0 V) → (V a0 = some (.inr (5, fs39a0))) → (jokO V (jFs 5) fs39a0) → (V oh = some (.inl (22, 60, .inl F22n60))) → (V gr = some (.inl (14, 16, .inl GA))) → (V mn = some (.inl (15, 16, .inl MN))) → (V sp = some (.inl (16, 960, .inl SP))) → (V fm = some (.inl (21, 60, .inl F2))) → (0 ≤ i4n60.toInt ∧ i4n60.toInt ≤ (MN x2.toInt.toNat).toInt) → (∀ j : Nat, (j : Int) < i4n60.toInt → F22n60 j = F2 j) → (300 - i4n60.toInt).toNat < N → J tS mX7_alike d 60 [some (.ref a0), some (.int x1), some (.int x2), some (.int fv39_0), some (.int i4n60), none] [] V 0 0 (fun r V => (jPost [.inr 5, .inl 17, .inl 21, .inl 22] V0 (fun r _ => ∃ y : Int32, r = some (.int y) ∧ ((-2147483648) ≤ y.toInt) ∧ (y.toInt ≤ 2147483647) ∧ ((y.toInt = 1 ∧ (MN x1.toInt.toNat).toInt = (MN x2.toInt.toNat).toInt ∧ ∀ j : Nat, j < (MN x1.toInt.toNat).toInt.toNat → jbs (GA x1.toInt.toNat).toInt (fun q => (SP (60 * x1.toInt.toNat + q)).toInt) (MN x1.toInt.toNat).toInt.toNat (2 * jtur (GA x1.toInt.toNat).toInt).toNat j = jbs (GA x1.toInt.toNat).toInt (fun q => (SP (60 * x2.toInt.toNat + q)).toInt) (MN x2.toInt.toNat).toInt.toNat (2 * jtur (GA x1.toInt.toNat).toInt).toNat j) ∨ (y.toInt = 0 ∧ ¬ ((MN x1.toInt.toNat).toInt = (MN x2.toInt.toNat).toInt ∧ ∀ j : Nat, j < (MN x1.toInt.toNat).toInt.toNat → jbs (GA x1.toInt.toNat).toInt (fun q => (SP (60 * x1.toInt.toNat + q)).toInt) (MN x1.toInt.toNat).toInt.toNat (2 * jtur (GA x1.toInt.toNat).toInt).toNat j = jbs (GA x1.toInt.toNat).toInt (fun q => (SP (60 * x2.toInt.toNat + q)).toInt) (MN x2.toInt.toNat).toInt.toNat (2 * jtur (GA x1.toInt.toNat).toInt).toNat j))))) r V ∧ jkc 5 [0, 23, 24] V0 V) := by
          intro N
          induction N with
          | zero => intro V i4n60 F22n60 hW he ha0 hb_gr hb_mn hb_sp hb_rw hb_fm hb_oh hkp hOfs39a0 hKfs39a0 hAF22n60 ha_GA ha_MN ha_SP hF2 hi4 hco hm; exact absurd hm (Nat.not_lt_zero _)
          | succ N ih =>
            intro V i4n60 F22n60 hW he ha0 hb_gr hb_mn hb_sp hb_rw hb_fm hb_oh hkp hOfs39a0 hKfs39a0 hAF22n60 ha_GA ha_MN ha_SP hF2 hi4 hco hm
            have ih60 := ih
            have hri4 := j_rng i4n60
            obtain ⟨hNF22n60, hvF22n60⟩ := WT_rngI (r := ((-2147483648), 2147483647)) hW id rfl hAF22n60
            clear hNF22n60
            refine J_iload dX7_alike_60 rfl ?_
            refine J_iload_n dX7_alike_62 rfl ?_
            refine Jz_icmp_ge (tgt := 86) jEq.rf hzf39_0 dX7_alike_63 (by decide) (fun c63 => ?_) (fun c63 => ?_)
            · refine J_aload_n dX7_alike_86 rfl ?_
              refine J_iload_n dX7_alike_87 rfl ?_
              obtain ⟨n88q17, f88q17, hA88q17, hN88q17, hM88q17, hv88q17⟩ := WT_arrI (r := (-2147483648, 2147483647)) hW id rfl hb_rw
              obtain rfl := hM88q17 120 rfl
              clear hN88q17 hM88q17
              refine Jw_callV1 (q9 := (RX7, TX7, 34)) moX7_brings jw_ml_X7_137 jw_im_X7_brings jw_se_X7_brings ha0 rfl rfl dX7_alike_88 (w_X7_brings_z (d - 1) _ a0 x1 mn sp rw MN SP f88q17 (by omega) hW  ha0 ⟨_, hOfs39a0, hFfs39a0_2⟩ ⟨_, hOfs39a0, hFfs39a0_3⟩ ⟨_, hOfs39a0, hFfs39a0_4⟩ ha_MN ha_SP hA88q17 (by omega) (by omega)) (by omega) (Nat.zero_le _) (Nat.zero_le _) (Nat.le_of_ble_eq_true rfl) (fun r88 V88 h88 => ?_)
              obtain ⟨h88, hX88_0, hX88_1, ⟨fv88_0, hfv88_0, hfp88_0⟩⟩ := h88
              obtain ⟨hW, hx88, hr88⟩ := h88
              have he := he.trans (hx88.sub (jsub_of rfl))
              have hkp := hkp.trans hX88_1
              have ha0 := ha0.mono hx88.1
              have hb_gr := hb_gr.mono hx88.1
              have hb_mn := hb_mn.mono hx88.1
              have hb_sp := hb_sp.mono hx88.1
              have hb_rw := hb_rw.mono hx88.1
              have hb_fm := hb_fm.mono hx88.1
              have hb_oh := hb_oh.mono hx88.1
              obtain ⟨fs88a0, hOfs88a0, hRfs88a0⟩ := hx88.1.keep hOfs39a0
              have hKfs88a0 : jokO _ (jFs 5) fs88a0 := hW _ _ id hOfs88a0
              have hFfs88a0_1 := hRfs88a0 _ _ hFfs39a0_1
              have hFfs88a0_2 := hRfs88a0 _ _ hFfs39a0_2
              have hFfs88a0_3 := hRfs88a0 _ _ hFfs39a0_3
              have hFfs88a0_4 := hRfs88a0 _ _ hFfs39a0_4
              have hFfs88a0_9 := hRfs88a0 _ _ hFfs39a0_9
              have hFfs88a0_10 := hRfs88a0 _ _ hFfs39a0_10
              have hAF22n60 := hx88.2 _ _ hAF22n60 (jnot_of rfl)
              have ha_GA := hx88.2 _ _ ha_GA (jnot_of rfl)
              have ha_MN := hx88.2 _ _ ha_MN (jnot_of rfl)
              have ha_SP := hx88.2 _ _ ha_SP (jnot_of rfl)
              have hF2 := hx88.2 _ _ hF2 (jnot_of rfl)
              cases hr88
              have hFv88_0 := hfv88_0.get hOfs88a0
              have hzf88_0 : jEq fv88_0.toInt ((MN (x1.toInt).toNat).toInt) := hfp88_0
              clear hfp88_0
              obtain ⟨R1, hR1, hRe1⟩ := hX88_0
              obtain ⟨hN_R1, hv_R1⟩ := WT_rngI (r := ((-2147483648), 2147483647)) hW id rfl hR1
              clear hN_R1
              refine J_aload_n dX7_alike_91 rfl ?_
              refine J_aload_n dX7_alike_92 rfl ?_
              refine J_get jf_X7_7 dX7_alike_93 hOfs88a0 hFfs88a0_1 ?_
              refine J_iload_n dX7_alike_96 rfl ?_
              refine Jz_iald (r := (0, 3)) jEq.rf dX7_alike_97 ha_GA rfl hv_GA (by omega) (by omega) (fun y97 hf97 hl97 hh97 => ?_)
              dsimp only at hl97 hh97
              clear hl97 hh97
              have he97 : jEq y97.toInt (y24.toInt) := by rw [← hf97, hf24]; exact jEq.rf
              refine Jw_callV1 (q9 := (RX7, TX7, 34)) moX7_findForm jw_ml_X7_174 jw_im_X7_findForm jw_se_X7_findForm ha0 rfl rfl dX7_alike_98 (w_X7_findForm_z (d - 1) _ a0 y97 fv88_0 rw fm R1 F2 (by omega) hW  ha0 ⟨_, hOfs88a0, hFv88_0⟩ ⟨_, hOfs88a0, hFfs88a0_4⟩ ⟨_, hOfs88a0, hFfs88a0_9⟩ hR1 hF2 (by have q := he97.eq; omega) (by have q := he97.eq; omega) (by rw [hzf88_0.eq]; omega) (fun j hj => by rw [hzf88_0.eq] at hj; rw [hRe1 j hj, show y97.toInt = (GA x1.toInt.toNat).toInt by (have q := he97.eq; omega)]; exact hp5 j hj)) (by omega) (Nat.zero_le _) (Nat.zero_le _) (Nat.le_of_ble_eq_true rfl) (fun r98 V98 h98 => ?_)
              obtain ⟨h98, hX98_0⟩ := h98
              obtain ⟨hW, hx98, hr98⟩ := h98
              have he := he.trans (hx98.sub (jsub_of rfl))
              have hkp := hkp.trans (jkc.of hx98 (jnot_of rfl))
              have ha0 := ha0.mono hx98.1
              have hb_gr := hb_gr.mono hx98.1
              have hb_mn := hb_mn.mono hx98.1
              have hb_sp := hb_sp.mono hx98.1
              have hb_rw := hb_rw.mono hx98.1
              have hb_fm := hb_fm.mono hx98.1
              have hb_oh := hb_oh.mono hx98.1
              have hOfs88a0 := hx98.2 _ _ hOfs88a0 (jnot_of rfl)
              have hKfs88a0 := hKfs88a0.mono hx98.1
              have hAF22n60 := hx98.2 _ _ hAF22n60 (jnot_of rfl)
              have ha_GA := hx98.2 _ _ ha_GA (jnot_of rfl)
              have ha_MN := hx98.2 _ _ ha_MN (jnot_of rfl)
              have ha_SP := hx98.2 _ _ ha_SP (jnot_of rfl)
              have hR1 := hx98.2 _ _ hR1 (jnot_of rfl)
              cases hr98
              obtain ⟨F1, hF1, hFe1⟩ := hX98_0
              rw [hzf88_0.eq, show y97.toInt = (GA x1.toInt.toNat).toInt by (have q := he97.eq; omega)] at hFe1
              have hG1 : ∀ j : Nat, j < (MN x1.toInt.toNat).toInt.toNat → (F1 j).toInt = jbs (GA x1.toInt.toNat).toInt (fun q => (SP (60 * x1.toInt.toNat + q)).toInt) (MN x1.toInt.toNat).toInt.toNat (2 * jtur (GA x1.toInt.toNat).toInt).toNat j := fun j hj => by rw [hFe1 j hj]; exact jbs_congr (fun q hq => by show (R1 q).toInt = _; rw [hRe1 q (by omega)]) _ j hj
              obtain ⟨hN_F1, hv_F1⟩ := WT_rngI (r := ((-2147483648), 2147483647)) hW id rfl hF1
              clear hN_F1
              refine J_iload_n dX7_alike_101 rfl ?_
              refine J_aload_n dX7_alike_102 rfl ?_
              refine J_get jf_X7_109 dX7_alike_103 hOfs88a0 hFv88_0 ?_
              refine Jz_icmp_ne (tgt := 113) hzf39_0 hzf88_0 dX7_alike_106 (by decide) (fun c106 => ?_) (fun c106 => ?_)
              · refine Jz_iconst 0 dX7_alike_113 (by decide) (fun y113 he113 => ?_)
                refine J_istore dX7_alike_114 rfl (by decide) ?_
                have hFO : ∀ j : Nat, j < (MN x2.toInt.toNat).toInt.toNat → (F22n60 j).toInt = jbs (GA x1.toInt.toNat).toInt (fun q => (SP (60 * x2.toInt.toNat + q)).toInt) (MN x2.toInt.toNat).toInt.toNat (2 * jtur (GA x1.toInt.toNat).toInt).toNat j := fun j hj => by rw [hco j (by omega), hG2 j hj, hp4]
                refine Jz_iconst 0 dX7_alike_116 (by decide) (fun y116 he116 => ?_)
                refine J_istore dX7_alike_117 rfl (by decide) ?_
                have L119 : ∀ (N : Nat) (i4n119 : Int32) (i5n119 : Int32), (0 ≤ i5n119.toInt ∧ i5n119.toInt ≤ (MN x2.toInt.toNat).toInt) → ((i4n119.toInt = 1 ∧ (MN x1.toInt.toNat).toInt = (MN x2.toInt.toNat).toInt ∧ ∀ j : Nat, (j : Int) < i5n119.toInt → (F1 j).toInt = (F22n60 j).toInt) ∨ (i4n119.toInt = 0 ∧ ¬ ((MN x1.toInt.toNat).toInt = (MN x2.toInt.toNat).toInt ∧ ∀ j : Nat, (j : Int) < (MN x2.toInt.toNat).toInt → (F1 j).toInt = (F22n60 j).toInt))) → (300 - i5n119.toInt).toNat < N → J tS mX7_alike d 119 [some (.ref a0), some (.int x1), some (.int x2), some (.int fv39_0), some (.int i4n119), some (.int i5n119)] [] V98 0 0 (fun r V => (jPost [.inr 5, .inl 17, .inl 21, .inl 22] V0 (fun r _ => ∃ y : Int32, r = some (.int y) ∧ ((-2147483648) ≤ y.toInt) ∧ (y.toInt ≤ 2147483647) ∧ ((y.toInt = 1 ∧ (MN x1.toInt.toNat).toInt = (MN x2.toInt.toNat).toInt ∧ ∀ j : Nat, j < (MN x1.toInt.toNat).toInt.toNat → jbs (GA x1.toInt.toNat).toInt (fun q => (SP (60 * x1.toInt.toNat + q)).toInt) (MN x1.toInt.toNat).toInt.toNat (2 * jtur (GA x1.toInt.toNat).toInt).toNat j = jbs (GA x1.toInt.toNat).toInt (fun q => (SP (60 * x2.toInt.toNat + q)).toInt) (MN x2.toInt.toNat).toInt.toNat (2 * jtur (GA x1.toInt.toNat).toInt).toNat j) ∨ (y.toInt = 0 ∧ ¬ ((MN x1.toInt.toNat).toInt = (MN x2.toInt.toNat).toInt ∧ ∀ j : Nat, j < (MN x1.toInt.toNat).toInt.toNat → jbs (GA x1.toInt.toNat).toInt (fun q => (SP (60 * x1.toInt.toNat + q)).toInt) (MN x1.toInt.toNat).toInt.toNat (2 * jtur (GA x1.toInt.toNat).toInt).toNat j = jbs (GA x1.toInt.toNat).toInt (fun q => (SP (60 * x2.toInt.toNat + q)).toInt) (MN x2.toInt.toNat).toInt.toNat (2 * jtur (GA x1.toInt.toNat).toInt).toNat j))))) r V ∧ jkc 5 [0, 23, 24] V0 V) := by
                  intro N
                  induction N with
                  | zero => intro i4n119 i5n119  hi5 hl hm; exact absurd hm (Nat.not_lt_zero _)
                  | succ N ih =>
                    intro i4n119 i5n119  hi5 hl hm
                    have ih119 := ih
                    have hri5 := j_rng i5n119
                    refine J_iload dX7_alike_119 rfl ?_
                    refine J_iload_n dX7_alike_121 rfl ?_
                    refine Jz_icmp_ge (tgt := 160) jEq.rf hzf39_0 dX7_alike_122 (by decide) (fun c122 => ?_) (fun c122 => ?_)
                    · have hev : ((MN x1.toInt.toNat).toInt = (MN x2.toInt.toNat).toInt ∧ ∀ j : Nat, (j : Int) < (MN x2.toInt.toNat).toInt → (F1 j).toInt = (F22n60 j).toInt) ↔ ((MN x1.toInt.toNat).toInt = (MN x2.toInt.toNat).toInt ∧ ∀ j : Nat, j < (MN x1.toInt.toNat).toInt.toNat → jbs (GA x1.toInt.toNat).toInt (fun q => (SP (60 * x1.toInt.toNat + q)).toInt) (MN x1.toInt.toNat).toInt.toNat (2 * jtur (GA x1.toInt.toNat).toInt).toNat j = jbs (GA x1.toInt.toNat).toInt (fun q => (SP (60 * x2.toInt.toNat + q)).toInt) (MN x2.toInt.toNat).toInt.toNat (2 * jtur (GA x1.toInt.toNat).toInt).toNat j) := ⟨fun z => ⟨z.1, fun j hj => by rw [← hG1 j hj, ← hFO j (by omega)]; exact z.2 j (by omega)⟩, fun z => ⟨z.1, fun j hj => by rw [hG1 j (by omega), hFO j (by omega)]; exact z.2 j (by omega)⟩⟩
                      refine J_iload dX7_alike_160 rfl ?_
                      refine Jz_if_eq (tgt := 169) jEq.rf dX7_alike_162 (by decide) (fun c162 => ?_) (fun c162 => ?_)
                      · refine Jz_iconst 0 dX7_alike_169 (by decide) (fun y169 he169 => ?_)
                        exact J_ret (r := some (.int _)) dX7_alike_170 ⟨rfl, _, rfl, rfl⟩ (⟨⟨hW, he, ⟨_, rfl, (j_rng _).1, (j_rng _).2, (by first | exact Or.inl ⟨he165.eq, hev.mp (hl.elim (fun z => ⟨z.2.1, fun j hj => z.2.2 j (by omega)⟩) (fun z => absurd z.1 c162))⟩ | exact Or.inr ⟨he169.eq, fun z => hl.elim (fun w => absurd w.1 (by omega)) (fun w => w.2 (hev.mpr z))⟩)⟩⟩, hkp⟩)
                      · refine Jz_iconst 1 dX7_alike_165 (by decide) (fun y165 he165 => ?_)
                        refine J_goto (tgt := 170) dX7_alike_166 (by decide) ?_
                        exact J_ret (r := some (.int _)) dX7_alike_170 ⟨rfl, _, rfl, rfl⟩ (⟨⟨hW, he, ⟨_, rfl, (j_rng _).1, (j_rng _).2, (by first | exact Or.inl ⟨he165.eq, hev.mp (hl.elim (fun z => ⟨z.2.1, fun j hj => z.2.2 j (by omega)⟩) (fun z => absurd z.1 c162))⟩ | exact Or.inr ⟨he169.eq, fun z => hl.elim (fun w => absurd w.1 (by omega)) (fun w => w.2 (hev.mpr z))⟩)⟩⟩, hkp⟩)
                    · refine J_iload dX7_alike_125 rfl ?_
                      refine Jz_if_eq (tgt := 160) jEq.rf dX7_alike_127 (by decide) (fun c127 => ?_) (fun c127 => ?_)
                      · have hev : ((MN x1.toInt.toNat).toInt = (MN x2.toInt.toNat).toInt ∧ ∀ j : Nat, (j : Int) < (MN x2.toInt.toNat).toInt → (F1 j).toInt = (F22n60 j).toInt) ↔ ((MN x1.toInt.toNat).toInt = (MN x2.toInt.toNat).toInt ∧ ∀ j : Nat, j < (MN x1.toInt.toNat).toInt.toNat → jbs (GA x1.toInt.toNat).toInt (fun q => (SP (60 * x1.toInt.toNat + q)).toInt) (MN x1.toInt.toNat).toInt.toNat (2 * jtur (GA x1.toInt.toNat).toInt).toNat j = jbs (GA x1.toInt.toNat).toInt (fun q => (SP (60 * x2.toInt.toNat + q)).toInt) (MN x2.toInt.toNat).toInt.toNat (2 * jtur (GA x1.toInt.toNat).toInt).toNat j) := ⟨fun z => ⟨z.1, fun j hj => by rw [← hG1 j hj, ← hFO j (by omega)]; exact z.2 j (by omega)⟩, fun z => ⟨z.1, fun j hj => by rw [hG1 j (by omega), hFO j (by omega)]; exact z.2 j (by omega)⟩⟩
                        refine J_iload dX7_alike_160 rfl ?_
                        refine Jz_if_eq (tgt := 169) jEq.rf dX7_alike_162 (by decide) (fun c162 => ?_) (fun c162 => ?_)
                        · refine Jz_iconst 0 dX7_alike_169 (by decide) (fun y169 he169 => ?_)
                          exact J_ret (r := some (.int _)) dX7_alike_170 ⟨rfl, _, rfl, rfl⟩ (⟨⟨hW, he, ⟨_, rfl, (j_rng _).1, (j_rng _).2, (by first | exact Or.inl ⟨he165.eq, hev.mp (hl.elim (fun z => ⟨z.2.1, fun j hj => z.2.2 j (by omega)⟩) (fun z => absurd z.1 c162))⟩ | exact Or.inr ⟨he169.eq, fun z => hl.elim (fun w => absurd w.1 (by omega)) (fun w => w.2 (hev.mpr z))⟩)⟩⟩, hkp⟩)
                        · refine Jz_iconst 1 dX7_alike_165 (by decide) (fun y165 he165 => ?_)
                          refine J_goto (tgt := 170) dX7_alike_166 (by decide) ?_
                          exact J_ret (r := some (.int _)) dX7_alike_170 ⟨rfl, _, rfl, rfl⟩ (⟨⟨hW, he, ⟨_, rfl, (j_rng _).1, (j_rng _).2, (by first | exact Or.inl ⟨he165.eq, hev.mp (hl.elim (fun z => ⟨z.2.1, fun j hj => z.2.2 j (by omega)⟩) (fun z => absurd z.1 c162))⟩ | exact Or.inr ⟨he169.eq, fun z => hl.elim (fun w => absurd w.1 (by omega)) (fun w => w.2 (hev.mpr z))⟩)⟩⟩, hkp⟩)
                      · refine J_aload_n dX7_alike_130 rfl ?_
                        refine J_get jf_X7_31 dX7_alike_131 hOfs88a0 hFfs88a0_9 ?_
                        refine J_iload dX7_alike_134 rfl ?_
                        refine Jz_iald (r := ((-2147483648), 2147483647)) jEq.rf dX7_alike_136 hF1 rfl hv_F1 (by omega) (by omega) (fun y136 hf136 hl136 hh136 => ?_)
                        dsimp only at hl136 hh136
                        clear hl136 hh136
                        refine J_aload_n dX7_alike_137 rfl ?_
                        refine J_get jf_X7_34 dX7_alike_138 hOfs88a0 hFfs88a0_10 ?_
                        refine J_iload dX7_alike_141 rfl ?_
                        refine Jz_iald (r := ((-2147483648), 2147483647)) jEq.rf dX7_alike_143 hAF22n60 rfl hvF22n60 (by omega) (by omega) (fun y143 hf143 hl143 hh143 => ?_)
                        dsimp only at hl143 hh143
                        clear hl143 hh143
                        refine Jz_icmp_ne (tgt := 151) jEq.rf jEq.rf dX7_alike_144 (by decide) (fun c144 => ?_) (fun c144 => ?_)
                        · have c144x := c144
                          refine Jz_iconst 0 dX7_alike_151 (by decide) (fun y151 he151 => ?_)
                          refine J_istore dX7_alike_152 rfl (by decide) ?_
                          refine Jz_iinc 1 dX7_alike_154 rfl rfl (by decide) jEq.rf (by decide) (by omega) (by omega) (fun y154 he154 => ?_)
                          refine J_goto (tgt := 119) dX7_alike_157 (by decide) ?_
                          refine J.mask [true, true, true, true, true, true] ?_
                          exact ih119  y151 y154  (by (try simp only [he151.eq, he154.eq, true_and, and_true]) <;> omega) (Or.inr ⟨by rw [he151.eq], fun z => c144x (by rw [← hf136, ← hf143]; exact z.2 i5n119.toInt.toNat (by omega))⟩) (by (try simp only [he151.eq, he154.eq, true_and, and_true]) <;> omega)
                        · refine Jz_iconst 1 dX7_alike_147 (by decide) (fun y147 he147 => ?_)
                          refine J_goto (tgt := 152) dX7_alike_148 (by decide) ?_
                          refine J_istore dX7_alike_152 rfl (by decide) ?_
                          refine Jz_iinc 1 dX7_alike_154 rfl rfl (by decide) jEq.rf (by decide) (by omega) (by omega) (fun y154 he154 => ?_)
                          refine J_goto (tgt := 119) dX7_alike_157 (by decide) ?_
                          refine J.mask [true, true, true, true, true, true] ?_
                          exact ih119  y147 y154  (by (try simp only [he147.eq, he154.eq, true_and, and_true]) <;> omega) (hl.elim (fun z => Or.inl ⟨by rw [he147.eq], z.2.1, fun j hj => by rw [he154.eq] at hj; by_cases h9 : (j : Int) = i5n119.toInt; (have e : j = i5n119.toInt.toNat := by omega); subst e; rw [hf136, hf143]; exact c144; exact z.2.2 j (by omega)⟩) (fun z => absurd z.1 c127)) (by (try simp only [he147.eq, he154.eq, true_and, and_true]) <;> omega)
                refine J.mask [true, true, true, true, true, true] ?_
                exact L119 _  y113 y116    (by (try simp only [he113.eq, he116.eq, true_and, and_true]) <;> omega) (by rw [he116.eq]; first | exact Or.inl ⟨he109.eq, by omega, fun j hj => absurd hj (by omega)⟩ | exact Or.inr ⟨he113.eq, fun z => absurd z.1 (by omega)⟩) (Nat.lt_succ_self _)
              · refine Jz_iconst 1 dX7_alike_109 (by decide) (fun y109 he109 => ?_)
                refine J_goto (tgt := 114) dX7_alike_110 (by decide) ?_
                refine J_istore dX7_alike_114 rfl (by decide) ?_
                have hFO : ∀ j : Nat, j < (MN x2.toInt.toNat).toInt.toNat → (F22n60 j).toInt = jbs (GA x1.toInt.toNat).toInt (fun q => (SP (60 * x2.toInt.toNat + q)).toInt) (MN x2.toInt.toNat).toInt.toNat (2 * jtur (GA x1.toInt.toNat).toInt).toNat j := fun j hj => by rw [hco j (by omega), hG2 j hj, hp4]
                refine Jz_iconst 0 dX7_alike_116 (by decide) (fun y116 he116 => ?_)
                refine J_istore dX7_alike_117 rfl (by decide) ?_
                have L119 : ∀ (N : Nat) (i4n119 : Int32) (i5n119 : Int32), (0 ≤ i5n119.toInt ∧ i5n119.toInt ≤ (MN x2.toInt.toNat).toInt) → ((i4n119.toInt = 1 ∧ (MN x1.toInt.toNat).toInt = (MN x2.toInt.toNat).toInt ∧ ∀ j : Nat, (j : Int) < i5n119.toInt → (F1 j).toInt = (F22n60 j).toInt) ∨ (i4n119.toInt = 0 ∧ ¬ ((MN x1.toInt.toNat).toInt = (MN x2.toInt.toNat).toInt ∧ ∀ j : Nat, (j : Int) < (MN x2.toInt.toNat).toInt → (F1 j).toInt = (F22n60 j).toInt))) → (300 - i5n119.toInt).toNat < N → J tS mX7_alike d 119 [some (.ref a0), some (.int x1), some (.int x2), some (.int fv39_0), some (.int i4n119), some (.int i5n119)] [] V98 0 0 (fun r V => (jPost [.inr 5, .inl 17, .inl 21, .inl 22] V0 (fun r _ => ∃ y : Int32, r = some (.int y) ∧ ((-2147483648) ≤ y.toInt) ∧ (y.toInt ≤ 2147483647) ∧ ((y.toInt = 1 ∧ (MN x1.toInt.toNat).toInt = (MN x2.toInt.toNat).toInt ∧ ∀ j : Nat, j < (MN x1.toInt.toNat).toInt.toNat → jbs (GA x1.toInt.toNat).toInt (fun q => (SP (60 * x1.toInt.toNat + q)).toInt) (MN x1.toInt.toNat).toInt.toNat (2 * jtur (GA x1.toInt.toNat).toInt).toNat j = jbs (GA x1.toInt.toNat).toInt (fun q => (SP (60 * x2.toInt.toNat + q)).toInt) (MN x2.toInt.toNat).toInt.toNat (2 * jtur (GA x1.toInt.toNat).toInt).toNat j) ∨ (y.toInt = 0 ∧ ¬ ((MN x1.toInt.toNat).toInt = (MN x2.toInt.toNat).toInt ∧ ∀ j : Nat, j < (MN x1.toInt.toNat).toInt.toNat → jbs (GA x1.toInt.toNat).toInt (fun q => (SP (60 * x1.toInt.toNat + q)).toInt) (MN x1.toInt.toNat).toInt.toNat (2 * jtur (GA x1.toInt.toNat).toInt).toNat j = jbs (GA x1.toInt.toNat).toInt (fun q => (SP (60 * x2.toInt.toNat + q)).toInt) (MN x2.toInt.toNat).toInt.toNat (2 * jtur (GA x1.toInt.toNat).toInt).toNat j))))) r V ∧ jkc 5 [0, 23, 24] V0 V) := by
                  intro N
                  induction N with
                  | zero => intro i4n119 i5n119  hi5 hl hm; exact absurd hm (Nat.not_lt_zero _)
                  | succ N ih =>
                    intro i4n119 i5n119  hi5 hl hm
                    have ih119 := ih
                    have hri5 := j_rng i5n119
                    refine J_iload dX7_alike_119 rfl ?_
                    refine J_iload_n dX7_alike_121 rfl ?_
                    refine Jz_icmp_ge (tgt := 160) jEq.rf hzf39_0 dX7_alike_122 (by decide) (fun c122 => ?_) (fun c122 => ?_)
                    · have hev : ((MN x1.toInt.toNat).toInt = (MN x2.toInt.toNat).toInt ∧ ∀ j : Nat, (j : Int) < (MN x2.toInt.toNat).toInt → (F1 j).toInt = (F22n60 j).toInt) ↔ ((MN x1.toInt.toNat).toInt = (MN x2.toInt.toNat).toInt ∧ ∀ j : Nat, j < (MN x1.toInt.toNat).toInt.toNat → jbs (GA x1.toInt.toNat).toInt (fun q => (SP (60 * x1.toInt.toNat + q)).toInt) (MN x1.toInt.toNat).toInt.toNat (2 * jtur (GA x1.toInt.toNat).toInt).toNat j = jbs (GA x1.toInt.toNat).toInt (fun q => (SP (60 * x2.toInt.toNat + q)).toInt) (MN x2.toInt.toNat).toInt.toNat (2 * jtur (GA x1.toInt.toNat).toInt).toNat j) := ⟨fun z => ⟨z.1, fun j hj => by rw [← hG1 j hj, ← hFO j (by omega)]; exact z.2 j (by omega)⟩, fun z => ⟨z.1, fun j hj => by rw [hG1 j (by omega), hFO j (by omega)]; exact z.2 j (by omega)⟩⟩
                      refine J_iload dX7_alike_160 rfl ?_
                      refine Jz_if_eq (tgt := 169) jEq.rf dX7_alike_162 (by decide) (fun c162 => ?_) (fun c162 => ?_)
                      · refine Jz_iconst 0 dX7_alike_169 (by decide) (fun y169 he169 => ?_)
                        exact J_ret (r := some (.int _)) dX7_alike_170 ⟨rfl, _, rfl, rfl⟩ (⟨⟨hW, he, ⟨_, rfl, (j_rng _).1, (j_rng _).2, (by first | exact Or.inl ⟨he165.eq, hev.mp (hl.elim (fun z => ⟨z.2.1, fun j hj => z.2.2 j (by omega)⟩) (fun z => absurd z.1 c162))⟩ | exact Or.inr ⟨he169.eq, fun z => hl.elim (fun w => absurd w.1 (by omega)) (fun w => w.2 (hev.mpr z))⟩)⟩⟩, hkp⟩)
                      · refine Jz_iconst 1 dX7_alike_165 (by decide) (fun y165 he165 => ?_)
                        refine J_goto (tgt := 170) dX7_alike_166 (by decide) ?_
                        exact J_ret (r := some (.int _)) dX7_alike_170 ⟨rfl, _, rfl, rfl⟩ (⟨⟨hW, he, ⟨_, rfl, (j_rng _).1, (j_rng _).2, (by first | exact Or.inl ⟨he165.eq, hev.mp (hl.elim (fun z => ⟨z.2.1, fun j hj => z.2.2 j (by omega)⟩) (fun z => absurd z.1 c162))⟩ | exact Or.inr ⟨he169.eq, fun z => hl.elim (fun w => absurd w.1 (by omega)) (fun w => w.2 (hev.mpr z))⟩)⟩⟩, hkp⟩)
                    · refine J_iload dX7_alike_125 rfl ?_
                      refine Jz_if_eq (tgt := 160) jEq.rf dX7_alike_127 (by decide) (fun c127 => ?_) (fun c127 => ?_)
                      · have hev : ((MN x1.toInt.toNat).toInt = (MN x2.toInt.toNat).toInt ∧ ∀ j : Nat, (j : Int) < (MN x2.toInt.toNat).toInt → (F1 j).toInt = (F22n60 j).toInt) ↔ ((MN x1.toInt.toNat).toInt = (MN x2.toInt.toNat).toInt ∧ ∀ j : Nat, j < (MN x1.toInt.toNat).toInt.toNat → jbs (GA x1.toInt.toNat).toInt (fun q => (SP (60 * x1.toInt.toNat + q)).toInt) (MN x1.toInt.toNat).toInt.toNat (2 * jtur (GA x1.toInt.toNat).toInt).toNat j = jbs (GA x1.toInt.toNat).toInt (fun q => (SP (60 * x2.toInt.toNat + q)).toInt) (MN x2.toInt.toNat).toInt.toNat (2 * jtur (GA x1.toInt.toNat).toInt).toNat j) := ⟨fun z => ⟨z.1, fun j hj => by rw [← hG1 j hj, ← hFO j (by omega)]; exact z.2 j (by omega)⟩, fun z => ⟨z.1, fun j hj => by rw [hG1 j (by omega), hFO j (by omega)]; exact z.2 j (by omega)⟩⟩
                        refine J_iload dX7_alike_160 rfl ?_
                        refine Jz_if_eq (tgt := 169) jEq.rf dX7_alike_162 (by decide) (fun c162 => ?_) (fun c162 => ?_)
                        · refine Jz_iconst 0 dX7_alike_169 (by decide) (fun y169 he169 => ?_)
                          exact J_ret (r := some (.int _)) dX7_alike_170 ⟨rfl, _, rfl, rfl⟩ (⟨⟨hW, he, ⟨_, rfl, (j_rng _).1, (j_rng _).2, (by first | exact Or.inl ⟨he165.eq, hev.mp (hl.elim (fun z => ⟨z.2.1, fun j hj => z.2.2 j (by omega)⟩) (fun z => absurd z.1 c162))⟩ | exact Or.inr ⟨he169.eq, fun z => hl.elim (fun w => absurd w.1 (by omega)) (fun w => w.2 (hev.mpr z))⟩)⟩⟩, hkp⟩)
                        · refine Jz_iconst 1 dX7_alike_165 (by decide) (fun y165 he165 => ?_)
                          refine J_goto (tgt := 170) dX7_alike_166 (by decide) ?_
                          exact J_ret (r := some (.int _)) dX7_alike_170 ⟨rfl, _, rfl, rfl⟩ (⟨⟨hW, he, ⟨_, rfl, (j_rng _).1, (j_rng _).2, (by first | exact Or.inl ⟨he165.eq, hev.mp (hl.elim (fun z => ⟨z.2.1, fun j hj => z.2.2 j (by omega)⟩) (fun z => absurd z.1 c162))⟩ | exact Or.inr ⟨he169.eq, fun z => hl.elim (fun w => absurd w.1 (by omega)) (fun w => w.2 (hev.mpr z))⟩)⟩⟩, hkp⟩)
                      · refine J_aload_n dX7_alike_130 rfl ?_
                        refine J_get jf_X7_31 dX7_alike_131 hOfs88a0 hFfs88a0_9 ?_
                        refine J_iload dX7_alike_134 rfl ?_
                        refine Jz_iald (r := ((-2147483648), 2147483647)) jEq.rf dX7_alike_136 hF1 rfl hv_F1 (by omega) (by omega) (fun y136 hf136 hl136 hh136 => ?_)
                        dsimp only at hl136 hh136
                        clear hl136 hh136
                        refine J_aload_n dX7_alike_137 rfl ?_
                        refine J_get jf_X7_34 dX7_alike_138 hOfs88a0 hFfs88a0_10 ?_
                        refine J_iload dX7_alike_141 rfl ?_
                        refine Jz_iald (r := ((-2147483648), 2147483647)) jEq.rf dX7_alike_143 hAF22n60 rfl hvF22n60 (by omega) (by omega) (fun y143 hf143 hl143 hh143 => ?_)
                        dsimp only at hl143 hh143
                        clear hl143 hh143
                        refine Jz_icmp_ne (tgt := 151) jEq.rf jEq.rf dX7_alike_144 (by decide) (fun c144 => ?_) (fun c144 => ?_)
                        · have c144x := c144
                          refine Jz_iconst 0 dX7_alike_151 (by decide) (fun y151 he151 => ?_)
                          refine J_istore dX7_alike_152 rfl (by decide) ?_
                          refine Jz_iinc 1 dX7_alike_154 rfl rfl (by decide) jEq.rf (by decide) (by omega) (by omega) (fun y154 he154 => ?_)
                          refine J_goto (tgt := 119) dX7_alike_157 (by decide) ?_
                          refine J.mask [true, true, true, true, true, true] ?_
                          exact ih119  y151 y154  (by (try simp only [he151.eq, he154.eq, true_and, and_true]) <;> omega) (Or.inr ⟨by rw [he151.eq], fun z => c144x (by rw [← hf136, ← hf143]; exact z.2 i5n119.toInt.toNat (by omega))⟩) (by (try simp only [he151.eq, he154.eq, true_and, and_true]) <;> omega)
                        · refine Jz_iconst 1 dX7_alike_147 (by decide) (fun y147 he147 => ?_)
                          refine J_goto (tgt := 152) dX7_alike_148 (by decide) ?_
                          refine J_istore dX7_alike_152 rfl (by decide) ?_
                          refine Jz_iinc 1 dX7_alike_154 rfl rfl (by decide) jEq.rf (by decide) (by omega) (by omega) (fun y154 he154 => ?_)
                          refine J_goto (tgt := 119) dX7_alike_157 (by decide) ?_
                          refine J.mask [true, true, true, true, true, true] ?_
                          exact ih119  y147 y154  (by (try simp only [he147.eq, he154.eq, true_and, and_true]) <;> omega) (hl.elim (fun z => Or.inl ⟨by rw [he147.eq], z.2.1, fun j hj => by rw [he154.eq] at hj; by_cases h9 : (j : Int) = i5n119.toInt; (have e : j = i5n119.toInt.toNat := by omega); subst e; rw [hf136, hf143]; exact c144; exact z.2.2 j (by omega)⟩) (fun z => absurd z.1 c127)) (by (try simp only [he147.eq, he154.eq, true_and, and_true]) <;> omega)
                refine J.mask [true, true, true, true, true, true] ?_
                exact L119 _  y109 y116    (by (try simp only [he109.eq, he116.eq, true_and, and_true]) <;> omega) (by rw [he116.eq]; first | exact Or.inl ⟨he109.eq, by omega, fun j hj => absurd hj (by omega)⟩ | exact Or.inr ⟨he113.eq, fun z => absurd z.1 (by omega)⟩) (Nat.lt_succ_self _)
            · refine J_aload_n dX7_alike_66 rfl ?_
              refine J_get jf_X7_34 dX7_alike_67 hOfs39a0 hFfs39a0_10 ?_
              refine J_iload dX7_alike_70 rfl ?_
              refine J_aload_n dX7_alike_72 rfl ?_
              refine J_get jf_X7_31 dX7_alike_73 hOfs39a0 hFfs39a0_9 ?_
              refine J_iload dX7_alike_76 rfl ?_
              refine Jz_iald (r := ((-2147483648), 2147483647)) jEq.rf dX7_alike_78 hF2 rfl hv_F2 (by omega) (by omega) (fun y78 hf78 hl78 hh78 => ?_)
              dsimp only at hl78 hh78
              clear hl78 hh78
              refine Jz_iast (r := ((-2147483648), 2147483647)) jEq.rf jEq.rf hW id dX7_alike_79 hAF22n60 rfl rfl (by omega) (by omega) (j_rng _).1 (j_rng _).2 (fun V79 G79 hW hx79 hA79 hp79 ho79 => ?_)
              obtain ⟨hN79, hv79⟩ := WT_rngI (r := ((-2147483648), 2147483647)) hW id rfl hA79
              clear hN79
              have he := he.trans (hx79.sub (jsub_of rfl))
              have hkp := hkp.trans (jkc.of hx79 (jnot_of rfl))
              have ha0 := ha0.mono hx79.1
              have hb_gr := hb_gr.mono hx79.1
              have hb_mn := hb_mn.mono hx79.1
              have hb_sp := hb_sp.mono hx79.1
              have hb_rw := hb_rw.mono hx79.1
              have hb_fm := hb_fm.mono hx79.1
              have hb_oh := hb_oh.mono hx79.1
              have hOfs39a0 := hx79.2 _ _ hOfs39a0 (jnot_of rfl)
              have hKfs39a0 := hKfs39a0.mono hx79.1
              have ha_GA := hx79.2 _ _ ha_GA (jnot_of rfl)
              have ha_MN := hx79.2 _ _ ha_MN (jnot_of rfl)
              have ha_SP := hx79.2 _ _ ha_SP (jnot_of rfl)
              have hF2 := hx79.2 _ _ hF2 (jnot_of rfl)
              refine Jz_iinc 1 dX7_alike_80 rfl rfl (by decide) jEq.rf (by decide) (by omega) (by omega) (fun y80 he80 => ?_)
              refine J_goto (tgt := 60) dX7_alike_83 (by decide) ?_
              refine J.mask [true, true, true, true, true, false] ?_
              exact ih60 _ y80 G79 hW he ha0 hb_gr hb_mn hb_sp hb_rw hb_fm hb_oh hkp hOfs39a0 hKfs39a0 hA79 ha_GA ha_MN ha_SP hF2 (by (try simp only [he80.eq, true_and, and_true]) <;> omega) (fun j hj => by rw [he80.eq] at hj; by_cases h9 : (j : Int) = i4n60.toInt; (have e : j = i4n60.toInt.toNat := by omega); subst e; rw [hp79, hf78]; rw [ho79 j (by omega)]; exact hco j (by omega)) (by (try simp only [he80.eq, true_and, and_true]) <;> omega)
        refine J.mask [true, true, true, true, true, false] ?_
        exact L60 _ _ y57 OH hW he ha0 hb_gr hb_mn hb_sp hb_rw hb_fm hb_oh hkp hOfs39a0 hKfs39a0 ha_OH ha_GA ha_MN ha_SP hF2 (by (try simp only [he57.eq, true_and, and_true]) <;> omega) (fun j hj => by rw [he57.eq] at hj; omega) (Nat.lt_succ_self _)
      · exact False.elim (by omega)
    · exact False.elim (by omega)
