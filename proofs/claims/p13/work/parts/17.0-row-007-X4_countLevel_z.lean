set_option maxRecDepth 100000 in
set_option maxHeartbeats 8000000 in
theorem w_X4_countLevel_z {tS : jTS} (d : Nat) (V0 : jH) (a0 : Nat) (x1 : Int32) (g : Int32) (R : Int32) (sd : Int32) (cd : Int32) (tg : Int32) (sp : Int32) (tk : Nat) (wc : Nat) (sq : Nat) (rc : Nat) (bc : Nat) (ln : Nat) (TK : Nat → Int32) (WC : Nat → Int32) (SQ : Nat → Int64) (RC : Nat → Int32) (BC : Nat → Int32) (hd : 26 ≤ d) (hW : WT V0) (ha0 : jis V0 (.inr 2) a0) (hl1 : 0 ≤ x1.toInt) (hh1 : x1.toInt ≤ 20) (hf_g : jfI V0 a0 2 0 g) (hf_R : jfI V0 a0 2 1 R) (hf_sd : jfI V0 a0 2 2 sd) (hf_cd : jfI V0 a0 2 11 cd) (hf_tg : jfI V0 a0 2 12 tg) (hf_sp : jfI V0 a0 2 13 sp) (hr_tk : jfR V0 a0 2 3 tk) (hr_wc : jfR V0 a0 2 4 wc) (hr_sq : jfR V0 a0 2 5 sq) (hr_rc : jfR V0 a0 2 6 rc) (hr_bc : jfR V0 a0 2 7 bc) (ha_TK : V0 tk = some (.inl (2, ln, .inl TK))) (ha_WC : V0 wc = some (.inl (8, 21, .inl WC))) (ha_SQ : V0 sq = some (.inl (1, 21, .inr (.inl SQ)))) (ha_RC : V0 rc = some (.inl (37, 21, .inl RC))) (ha_BC : V0 bc = some (.inl (38, 21, .inl BC))) (hp0 : 0 ≤ g.toInt) (hp1 : g.toInt ≤ 3) (hp2 : R.toInt = jRg g.toInt) (hp3 : sd.toInt = 2 * jRg g.toInt + 1) (hp4 : (ln : Int) = jLg g.toInt) (hp5 : 1 ≤ x1.toInt) (hp6 : x1.toInt ≤ jRg g.toInt) (hp7 : tg.toInt = ((jTT g.toInt (x1.toInt.toNat - 1) jL0 : Nat) : Int)) (hp8 : tg.toInt ≤ 600000) (hp9 : sp.toInt = 0) (hp10 : jtk g.toInt TK []) (hp11 : WC x1.toInt.toNat = 0) (hp12 : SQ x1.toInt.toNat = 0) (hp13 : RC x1.toInt.toNat = 0) (hp14 : BC x1.toInt.toNat = 0) : jTot tS mX4_countLevel d [.ref a0, .int x1] V0 0 0 (fun r V => (jPost [.inr 2, .inl 1, .inl 2, .inl 8, .inl 37, .inl 38] V0 rV) r V ∧ (∃ (TK2 WC2 : Nat → Int32) (SQ2 : Nat → Int64) (RC2 BC2 : Nat → Int32) (sp2 cd2 tg2 : Int32), V tk = some (.inl (2, ln, .inl TK2)) ∧ V wc = some (.inl (8, 21, .inl WC2)) ∧ V sq = some (.inl (1, 21, .inr (.inl SQ2))) ∧ V rc = some (.inl (37, 21, .inl RC2)) ∧ V bc = some (.inl (38, 21, .inl BC2)) ∧ jfI V a0 2 13 sp2 ∧ jfI V a0 2 11 cd2 ∧ jfI V a0 2 12 tg2 ∧ jtk g.toInt TK2 [] ∧ jot WC2 SQ2 RC2 BC2 WC SQ RC BC x1.toInt.toNat ∧ 0 ≤ (WC2 x1.toInt.toNat).toInt ∧ ((sp2.toInt = 0 ∧ jTT g.toInt x1.toInt.toNat jL0 ≤ 600000 ∧ cd2.toInt = (x1.toInt.toNat : Int) ∧ tg2.toInt = ((jTT g.toInt x1.toInt.toNat jL0 : Nat) : Int) ∧ jac WC2 SQ2 RC2 BC2 x1.toInt.toNat = jwn g.toInt x1.toInt.toNat) ∨ (sp2.toInt = 1 ∧ 600000 < jTT g.toInt x1.toInt.toNat jL0 ∧ cd2.toInt = cd.toInt ∧ tg2.toInt = tg.toInt))) ∧ jfp [a0, tk, wc, sq, rc, bc] V0 V ∧ (∃ g2 : Int32, jfI V a0 2 0 g2 ∧ (g2.toInt = g.toInt)) ∧ (∃ R2 : Int32, jfI V a0 2 1 R2 ∧ (R2.toInt = R.toInt)) ∧ (∃ sd2 : Int32, jfI V a0 2 2 sd2 ∧ (sd2.toInt = sd.toInt))) := by
  refine jTot.of_J [some (.ref a0), some (.int x1), none] moX4_countLevel (Nat.le_of_ble_eq_true rfl) rfl ?_
  have he : jeff [.inr 2, .inl 1, .inl 2, .inl 8, .inl 37, .inl 38] V0 V0 := jeff.refl _ _
  have hfp : jfp [a0, tk, wc, sq, rc, bc] V0 V0 := jfp.rf
  obtain ⟨fs_a0, hO_a0, hK_a0⟩ := WT_obj hW id ha0
  have hF_g := hf_g.get hO_a0
  have hrg : (-2147483648) ≤ g.toInt ∧ g.toInt ≤ 2147483647 := jok_rngI hK_a0 rfl hF_g
  have hF_R := hf_R.get hO_a0
  have hrR : 0 ≤ R.toInt ∧ R.toInt ≤ 20 := jok_rngI hK_a0 rfl hF_R
  have hF_sd := hf_sd.get hO_a0
  have hrsd : (-2147483648) ≤ sd.toInt ∧ sd.toInt ≤ 2147483647 := jok_rngI hK_a0 rfl hF_sd
  have hF_cd := hf_cd.get hO_a0
  have hrcd : 0 ≤ cd.toInt ∧ cd.toInt ≤ 20 := jok_rngI hK_a0 rfl hF_cd
  have hF_tg := hf_tg.get hO_a0
  have hrtg : (-2147483648) ≤ tg.toInt ∧ tg.toInt ≤ 2147483647 := jok_rngI hK_a0 rfl hF_tg
  have hF_sp := hf_sp.get hO_a0
  have hrsp : 0 ≤ sp.toInt ∧ sp.toInt ≤ 1 := jok_rngI hK_a0 rfl hF_sp
  have hF_tk := hr_tk.get hO_a0
  obtain ⟨w_tk, hFq_tk, b_tk, hbq_tk, hb_tk⟩ := hK_a0.2 3 (.inr (some (.inl 2))) rfl
  cases hF_tk.symm.trans (hFq_tk.trans (congrArg some hbq_tk))
  have hF_wc := hr_wc.get hO_a0
  obtain ⟨w_wc, hFq_wc, b_wc, hbq_wc, hb_wc⟩ := hK_a0.2 4 (.inr (some (.inl 8))) rfl
  cases hF_wc.symm.trans (hFq_wc.trans (congrArg some hbq_wc))
  have hF_sq := hr_sq.get hO_a0
  obtain ⟨w_sq, hFq_sq, b_sq, hbq_sq, hb_sq⟩ := hK_a0.2 5 (.inr (some (.inl 1))) rfl
  cases hF_sq.symm.trans (hFq_sq.trans (congrArg some hbq_sq))
  have hF_rc := hr_rc.get hO_a0
  obtain ⟨w_rc, hFq_rc, b_rc, hbq_rc, hb_rc⟩ := hK_a0.2 6 (.inr (some (.inl 37))) rfl
  cases hF_rc.symm.trans (hFq_rc.trans (congrArg some hbq_rc))
  have hF_bc := hr_bc.get hO_a0
  obtain ⟨w_bc, hFq_bc, b_bc, hbq_bc, hb_bc⟩ := hK_a0.2 7 (.inr (some (.inl 38))) rfl
  cases hF_bc.symm.trans (hFq_bc.trans (congrArg some hbq_bc))
  obtain ⟨hN_TK, hv_TK⟩ := WT_rngI (r := (0, 1)) hW id rfl ha_TK
  clear hN_TK
  obtain ⟨hN_WC, hv_WC⟩ := WT_rngI (r := ((-2147483648), 2147483647)) hW id rfl ha_WC
  clear hN_WC
  obtain ⟨hN_RC, hv_RC⟩ := WT_rngI (r := ((-2147483648), 2147483647)) hW id rfl ha_RC
  clear hN_RC
  obtain ⟨hN_BC, hv_BC⟩ := WT_rngI (r := ((-2147483648), 2147483647)) hW id rfl ha_BC
  clear hN_BC
  have hjR := jRg_cases g.toInt
  have hcb : 0 ≤ jcell g.toInt (0, 0, 0) ∧ jcell g.toInt (0, 0, 0) < jLg g.toInt := jcell_b jin.zero
  have hw0 : (WC x1.toInt.toNat).toInt = 0 := by rw [hp11]; rfl
  refine J_aload_n dX4_countLevel_0 rfl ?_
  refine J_iload_n dX4_countLevel_1 rfl ?_
  refine Jz_putI hO_a0 hW id rfl jf_X4_31 jt_X4_10 jEq.rf dX4_countLevel_2 (by omega) (by omega) (fun _ _ => ⟨rfl, rfl⟩) (fun V2 fs2 hW hx2 hO2 hS2 hT2 hB2 => ?_)
  have hK2 : jokO _ (jFs 2) fs2 := hW _ _ id hO2
  have hF2_0 := (hT2 0 (by decide)).trans hF_g
  have hF2_1 := (hT2 1 (by decide)).trans hF_R
  have hF2_2 := (hT2 2 (by decide)).trans hF_sd
  have hF2_11 := (hT2 11 (by decide)).trans hF_cd
  have hF2_12 := (hT2 12 (by decide)).trans hF_tg
  have hF2_13 := (hT2 13 (by decide)).trans hF_sp
  have hF2_3 := (hT2 3 (by decide)).trans hF_tk
  have hF2_4 := (hT2 4 (by decide)).trans hF_wc
  have hF2_5 := (hT2 5 (by decide)).trans hF_sq
  have hF2_6 := (hT2 6 (by decide)).trans hF_rc
  have hF2_7 := (hT2 7 (by decide)).trans hF_bc
  have he := he.trans (hx2.sub (jsub_of rfl))
  have hfp := hfp.trans (jfp.one hB2 List.mem_cons_self)
  have ha0 := ha0.mono hx2.1
  have hb_tk := hb_tk.mono hx2.1
  have hb_wc := hb_wc.mono hx2.1
  have hb_sq := hb_sq.mono hx2.1
  have hb_rc := hb_rc.mono hx2.1
  have hb_bc := hb_bc.mono hx2.1
  have ha_TK := hx2.2 _ _ ha_TK (jnot_of rfl)
  have ha_WC := hx2.2 _ _ ha_WC (jnot_of rfl)
  have ha_SQ := hx2.2 _ _ ha_SQ (jnot_of rfl)
  have ha_RC := hx2.2 _ _ ha_RC (jnot_of rfl)
  have ha_BC := hx2.2 _ _ ha_BC (jnot_of rfl)
  refine J_aload_n dX4_countLevel_5 rfl ?_
  refine Jz_iconst 0 dX4_countLevel_6 (by decide) (fun y6 he6 => ?_)
  refine Jz_iconst 0 dX4_countLevel_7 (by decide) (fun y7 he7 => ?_)
  refine Jz_iconst 0 dX4_countLevel_8 (by decide) (fun y8 he8 => ?_)
  refine Jw_callV3 (q9 := (RX4, TX4, 14)) moX4_cellOf jw_ml_X4_62 jw_im_X4_cellOf jw_se_X4_cellOf ha0 rfl rfl dX4_countLevel_9 (w_X4_cellOf_z (d - 1) _ a0 y6 y7 y8 g R sd (by omega) hW  ha0 ⟨_, hO2, hF2_0⟩ ⟨_, hO2, hF2_1⟩ ⟨_, hO2, hF2_2⟩ (by omega) (by omega) (by omega) (by omega) (by (try simp only [he6.eq, true_and, and_true]) <;> omega) (by (try simp only [he6.eq, true_and, and_true]) <;> omega) (by (try simp only [he7.eq, true_and, and_true]) <;> omega) (by (try simp only [he7.eq, true_and, and_true]) <;> omega) (by (try simp only [he8.eq, true_and, and_true]) <;> omega) (by (try simp only [he8.eq, true_and, and_true]) <;> omega)) (by omega) (Nat.zero_le _) (Nat.zero_le _) (Nat.le_of_ble_eq_true rfl) (fun r9 V9 h9 => ?_)
  obtain ⟨⟨y9, rfl, hl9, hh9, hP9_0⟩, hE9⟩ := h9
  have hE9 := hE9.symm
  subst hE9
  clear hl9 hh9
  try simp only [he6.eq, he7.eq, he8.eq] at hP9_0
  have hz9 : jEq y9.toInt (jcell (g.toInt) ((0), (0), (0))) := hP9_0
  clear hP9_0
  refine J_istore_n dX4_countLevel_12 rfl (by decide) ?_
  refine J_aload_n dX4_countLevel_13 rfl ?_
  refine J_iload_n dX4_countLevel_14 rfl ?_
  refine Jz_iconst 1 dX4_countLevel_15 (by decide) (fun y15 he15 => ?_)
  refine Jw_callV2 (q9 := (RX4, TX4, 14)) moX4_setTaken jw_ml_X4_66 jw_im_X4_setTaken jw_se_X4_setTaken ha0 rfl rfl dX4_countLevel_16 (w_X4_setTaken_z (d - 1) _ a0 y9 y15 tk TK (by omega) hW  ha0 (by (try simp only [he15.eq, true_and, and_true]) <;> omega) (by (try simp only [he15.eq, true_and, and_true]) <;> omega) ⟨_, hO2, hF2_3⟩ ha_TK (by rw [hz9.eq]; omega) (by rw [hz9.eq]; omega) (by omega)) (by omega) (Nat.zero_le _) (Nat.zero_le _) (Nat.le_of_ble_eq_true rfl) (fun r16 V16 h16 => ?_)
  obtain ⟨h16, hX16_0, hX16_1⟩ := h16
  obtain ⟨hW, hx16, hr16⟩ := h16
  have he := he.trans (hx16.sub (jsub_of rfl))
  have hfp := hfp.trans (hX16_1.sub (fun b hb => by simp only [List.mem_cons, List.not_mem_nil, or_false] at hb ⊢; omega))
  have ha0 := ha0.mono hx16.1
  have hb_tk := hb_tk.mono hx16.1
  have hb_wc := hb_wc.mono hx16.1
  have hb_sq := hb_sq.mono hx16.1
  have hb_rc := hb_rc.mono hx16.1
  have hb_bc := hb_bc.mono hx16.1
  have hO2 := hx16.2 _ _ hO2 (jnot_of rfl)
  have hK2 := hK2.mono hx16.1
  have ha_WC := hx16.2 _ _ ha_WC (jnot_of rfl)
  have ha_SQ := hx16.2 _ _ ha_SQ (jnot_of rfl)
  have ha_RC := hx16.2 _ _ ha_RC (jnot_of rfl)
  have ha_BC := hx16.2 _ _ ha_BC (jnot_of rfl)
  cases hr16
  obtain ⟨TK16, hTa16, hTn16, hTo16⟩ := hX16_0
  simp only [hz9.eq] at hTn16 hTo16
  have htk16 : jtk g.toInt TK16 [(0, 0, 0)] := hp10.set jin.zero (by rw [hTn16, he15.eq]; decide) hTo16
  obtain ⟨hN_TK16, hv_TK16⟩ := WT_rngI (r := (0, 1)) hW id rfl hTa16
  clear hN_TK16
  refine J_aload_n dX4_countLevel_19 rfl ?_
  refine Jz_iconst 0 dX4_countLevel_20 (by decide) (fun y20 he20 => ?_)
  refine Jz_iconst 0 dX4_countLevel_21 (by decide) (fun y21 he21 => ?_)
  refine Jz_iconst 0 dX4_countLevel_22 (by decide) (fun y22 he22 => ?_)
  refine Jz_iconst 0 dX4_countLevel_23 (by decide) (fun y23 he23 => ?_)
  refine Jz_iconst 0 dX4_countLevel_24 (by decide) (fun y24 he24 => ?_)
  refine J_callS6 moX4_extend jw_ml_X4_70 jw_st_X4_extend dX4_countLevel_25 (w_X4_extend_z 22 (d - 1) _ a0 y20 y21 y22 y23 y24 g R sd x1 cd tg sp tk wc sq rc bc ln [(0, 0, 0)] TK16 WC SQ RC BC (by omega) hW ha0 (by (try simp only [he20.eq, true_and, and_true]) <;> omega) (by (try simp only [he20.eq, true_and, and_true]) <;> omega) ⟨_, hO2, hF2_0⟩ ⟨_, hO2, hF2_1⟩ ⟨_, hO2, hF2_2⟩ ⟨_, hO2, hS2⟩ ⟨_, hO2, hF2_11⟩ ⟨_, hO2, hF2_12⟩ ⟨_, hO2, hF2_13⟩ ⟨_, hO2, hF2_3⟩ ⟨_, hO2, hF2_4⟩ ⟨_, hO2, hF2_5⟩ ⟨_, hO2, hF2_6⟩ ⟨_, hO2, hF2_7⟩ hTa16 ha_WC ha_SQ ha_RC ha_BC (by omega) (by omega) (by omega) (by omega) (by omega) (by rw [he20.eq]; omega) (by omega) (by omega) (by omega) (by omega) (by omega) (by omega) (by rw [he20.eq]; rfl) (by rw [he21.eq, he22.eq, he23.eq]; rfl) (by rw [he20.eq]; exact jnr.one) htk16 (by rw [he24.eq]; rfl) (by (try simp only [he20.eq, he21.eq, he22.eq, he23.eq, he24.eq, true_and, and_true]) <;> omega)) (by omega) (Nat.zero_le _) (Nat.zero_le _) (Nat.le_of_ble_eq_true rfl) (fun r25 V25 h25 => ?_)
  obtain ⟨h25, hX25_0, hX25_1, ⟨fv25_0, hfv25_0, hfp25_0⟩, ⟨fv25_1, hfv25_1, hfp25_1⟩, ⟨fv25_2, hfv25_2, hfp25_2⟩, ⟨fv25_3, hfv25_3, hfp25_3⟩, ⟨fv25_4, hfv25_4, hfp25_4⟩, ⟨fv25_5, hfv25_5, hfp25_5⟩⟩ := h25
  obtain ⟨hW, hx25, hr25⟩ := h25
  have he := he.trans (hx25.sub (jsub_of rfl))
  have hfp := hfp.trans (hX25_1.sub (fun b hb => by simp only [List.mem_cons, List.not_mem_nil, or_false] at hb ⊢; omega))
  have ha0 := ha0.mono hx25.1
  have hb_tk := hb_tk.mono hx25.1
  have hb_wc := hb_wc.mono hx25.1
  have hb_sq := hb_sq.mono hx25.1
  have hb_rc := hb_rc.mono hx25.1
  have hb_bc := hb_bc.mono hx25.1
  obtain ⟨fs25a0, hOfs25a0, hRfs25a0⟩ := hx25.1.keep hO2
  have hKfs25a0 : jokO _ (jFs 2) fs25a0 := hW _ _ id hOfs25a0
  have hFfs25a0_3 := hRfs25a0 _ _ hF2_3
  have hFfs25a0_4 := hRfs25a0 _ _ hF2_4
  have hFfs25a0_5 := hRfs25a0 _ _ hF2_5
  have hFfs25a0_6 := hRfs25a0 _ _ hF2_6
  have hFfs25a0_7 := hRfs25a0 _ _ hF2_7
  cases hr25
  have hFv25_0 := hfv25_0.get hOfs25a0
  try simp only [he20.eq, he21.eq, he22.eq, he23.eq, he24.eq] at hfp25_0
  have hsb25_0 : g = fv25_0 := (jI_inj.mp hfp25_0).symm
  subst hsb25_0
  have hFv25_1 := hfv25_1.get hOfs25a0
  try simp only [he20.eq, he21.eq, he22.eq, he23.eq, he24.eq] at hfp25_1
  have hsb25_1 : R = fv25_1 := (jI_inj.mp hfp25_1).symm
  subst hsb25_1
  have hFv25_2 := hfv25_2.get hOfs25a0
  try simp only [he20.eq, he21.eq, he22.eq, he23.eq, he24.eq] at hfp25_2
  have hsb25_2 : sd = fv25_2 := (jI_inj.mp hfp25_2).symm
  subst hsb25_2
  have hFv25_3 := hfv25_3.get hOfs25a0
  try simp only [he20.eq, he21.eq, he22.eq, he23.eq, he24.eq] at hfp25_3
  have hsb25_3 : x1 = fv25_3 := (jI_inj.mp hfp25_3).symm
  subst hsb25_3
  have hFv25_4 := hfv25_4.get hOfs25a0
  try simp only [he20.eq, he21.eq, he22.eq, he23.eq, he24.eq] at hfp25_4
  have hsb25_4 : cd = fv25_4 := (jI_inj.mp hfp25_4).symm
  subst hsb25_4
  have hFv25_5 := hfv25_5.get hOfs25a0
  try simp only [he20.eq, he21.eq, he22.eq, he23.eq, he24.eq] at hfp25_5
  have hsb25_5 : tg = fv25_5 := (jI_inj.mp hfp25_5).symm
  subst hsb25_5
  obtain ⟨TK25, WC25, SQ25, RC25, BC25, sp25, hTa25, hWa25, hSa25, hRa25, hBa25, hspf25, htk25, hea, hew0, hew1, hes, heo⟩ := hX25_0
  rw [he20.eq, show (x1.toInt - 0).toNat = x1.toInt.toNat by omega, show jac WC SQ RC BC x1.toInt.toNat = jZ4 by unfold jac; rw [hp11, hp12, hp13, hp14]; rfl] at hea
  obtain ⟨hd0, hd1⟩ := jcl_done (g := g.toInt) (tg := tg.toInt) (n := x1.toInt.toNat) (by omega) hp7 hp8 hea
  have hwn : (((WC25 x1.toInt.toNat).toInt.toNat : Nat) : Int) = (WC25 x1.toInt.toNat).toInt := Int.toNat_of_nonneg hew0
  dsimp only at hd0 hd1
  rw [hwn] at hd0 hd1
  have hFv2513 := hspf25.get hOfs25a0
  obtain ⟨hN_TK25, hv_TK25⟩ := WT_rngI (r := (0, 1)) hW id rfl hTa25
  clear hN_TK25
  obtain ⟨hN_WC25, hv_WC25⟩ := WT_rngI (r := ((-2147483648), 2147483647)) hW id rfl hWa25
  clear hN_WC25
  obtain ⟨hN_RC25, hv_RC25⟩ := WT_rngI (r := ((-2147483648), 2147483647)) hW id rfl hRa25
  clear hN_RC25
  obtain ⟨hN_BC25, hv_BC25⟩ := WT_rngI (r := ((-2147483648), 2147483647)) hW id rfl hBa25
  clear hN_BC25
  refine J_aload_n dX4_countLevel_28 rfl ?_
  refine J_iload_n dX4_countLevel_29 rfl ?_
  refine Jz_iconst 0 dX4_countLevel_30 (by decide) (fun y30 he30 => ?_)
  refine Jw_callV2 (q9 := (RX4, TX4, 14)) moX4_setTaken jw_ml_X4_66 jw_im_X4_setTaken jw_se_X4_setTaken ha0 rfl rfl dX4_countLevel_31 (w_X4_setTaken_z (d - 1) _ a0 y9 y30 tk TK25 (by omega) hW  ha0 (by (try simp only [he30.eq, true_and, and_true]) <;> omega) (by (try simp only [he30.eq, true_and, and_true]) <;> omega) ⟨_, hOfs25a0, hFfs25a0_3⟩ hTa25 (by rw [hz9.eq]; omega) (by rw [hz9.eq]; omega) (by omega)) (by omega) (Nat.zero_le _) (Nat.zero_le _) (Nat.le_of_ble_eq_true rfl) (fun r31 V31 h31 => ?_)
  obtain ⟨h31, hX31_0, hX31_1⟩ := h31
  obtain ⟨hW, hx31, hr31⟩ := h31
  have he := he.trans (hx31.sub (jsub_of rfl))
  have hfp := hfp.trans (hX31_1.sub (fun b hb => by simp only [List.mem_cons, List.not_mem_nil, or_false] at hb ⊢; omega))
  have ha0 := ha0.mono hx31.1
  have hb_tk := hb_tk.mono hx31.1
  have hb_wc := hb_wc.mono hx31.1
  have hb_sq := hb_sq.mono hx31.1
  have hb_rc := hb_rc.mono hx31.1
  have hb_bc := hb_bc.mono hx31.1
  have hOfs25a0 := hx31.2 _ _ hOfs25a0 (jnot_of rfl)
  have hKfs25a0 := hKfs25a0.mono hx31.1
  have hWa25 := hx31.2 _ _ hWa25 (jnot_of rfl)
  have hSa25 := hx31.2 _ _ hSa25 (jnot_of rfl)
  have hRa25 := hx31.2 _ _ hRa25 (jnot_of rfl)
  have hBa25 := hx31.2 _ _ hBa25 (jnot_of rfl)
  cases hr31
  obtain ⟨TK31, hTa31, hTn31, hTo31⟩ := hX31_0
  simp only [hz9.eq] at hTn31 hTo31
  have htk31 : jtk g.toInt TK31 [] := htk25.clr List.not_mem_nil jin.zero (by rw [hTn31, he30.eq]) hTo31
  obtain ⟨hN_TK31, hv_TK31⟩ := WT_rngI (r := (0, 1)) hW id rfl hTa31
  clear hN_TK31
  refine J_aload_n dX4_countLevel_34 rfl ?_
  refine J_get jf_X4_41 dX4_countLevel_35 hOfs25a0 hFv2513 ?_
  refine Jz_if_ne (tgt := 63) jEq.rf dX4_countLevel_38 (by decide) (fun c38 => ?_) (fun c38 => ?_)
  · exact J_ret (r := none) dX4_countLevel_63 ⟨rfl, rfl⟩ (⟨⟨hW, he, rfl⟩, ⟨TK31, WC25, SQ25, RC25, BC25, sp25, cd, tg, hTa31, hWa25, hSa25, hRa25, hBa25, ⟨_, hOfs25a0, hFv2513⟩, ⟨_, hOfs25a0, hFv25_4⟩, ⟨_, hOfs25a0, hFv25_5⟩, htk31, heo, hew0, (by first | exact Or.inr ⟨by omega, hd1 (by omega), rfl, rfl⟩ | exact Or.inl ⟨by omega, (hd0 (by omega)).1, by omega, by rw [he59.eq]; exact (hd0 (by omega)).2.1, (hd0 (by omega)).2.2⟩)⟩, hfp, ⟨_, ⟨_, hOfs25a0, hFv25_0⟩, (by omega)⟩, ⟨_, ⟨_, hOfs25a0, hFv25_1⟩, (by omega)⟩, ⟨_, ⟨_, hOfs25a0, hFv25_2⟩, (by omega)⟩⟩)
  · refine J_aload_n dX4_countLevel_41 rfl ?_
    refine J_iload_n dX4_countLevel_42 rfl ?_
    refine Jz_putI hOfs25a0 hW id rfl jf_X4_35 jt_X4_11 jEq.rf dX4_countLevel_43 (by omega) (by omega) (fun _ _ => ⟨rfl, rfl⟩) (fun V43 fs43 hW hx43 hO43 hS43 hT43 hB43 => ?_)
    have hK43 : jokO _ (jFs 2) fs43 := hW _ _ id hO43
    have hF43_3 := (hT43 3 (by decide)).trans hFfs25a0_3
    have hF43_4 := (hT43 4 (by decide)).trans hFfs25a0_4
    have hF43_5 := (hT43 5 (by decide)).trans hFfs25a0_5
    have hF43_6 := (hT43 6 (by decide)).trans hFfs25a0_6
    have hF43_7 := (hT43 7 (by decide)).trans hFfs25a0_7
    have hF43_0 := (hT43 0 (by decide)).trans hFv25_0
    have hF43_1 := (hT43 1 (by decide)).trans hFv25_1
    have hF43_2 := (hT43 2 (by decide)).trans hFv25_2
    have hF43_10 := (hT43 10 (by decide)).trans hFv25_3
    have hF43_12 := (hT43 12 (by decide)).trans hFv25_5
    have hF43_13 := (hT43 13 (by decide)).trans hFv2513
    have he := he.trans (hx43.sub (jsub_of rfl))
    have hfp := hfp.trans (jfp.one hB43 List.mem_cons_self)
    have ha0 := ha0.mono hx43.1
    have hb_tk := hb_tk.mono hx43.1
    have hb_wc := hb_wc.mono hx43.1
    have hb_sq := hb_sq.mono hx43.1
    have hb_rc := hb_rc.mono hx43.1
    have hb_bc := hb_bc.mono hx43.1
    have hWa25 := hx43.2 _ _ hWa25 (jnot_of rfl)
    have hSa25 := hx43.2 _ _ hSa25 (jnot_of rfl)
    have hRa25 := hx43.2 _ _ hRa25 (jnot_of rfl)
    have hBa25 := hx43.2 _ _ hBa25 (jnot_of rfl)
    have hTa31 := hx43.2 _ _ hTa31 (jnot_of rfl)
    refine J_aload_n dX4_countLevel_46 rfl ?_
    refine J_dup dX4_countLevel_47 rfl ?_
    refine J_get jf_X4_38 dX4_countLevel_48 hO43 hF43_12 ?_
    refine J_aload_n dX4_countLevel_51 rfl ?_
    refine J_get jf_X4_9 dX4_countLevel_52 hO43 hF43_4 ?_
    refine J_iload_n dX4_countLevel_55 rfl ?_
    refine J_callSN2 moX6_cell (host := "WalkGrounds") (List.mem_of_getElem? (i := 4) rfl) jw_st_X6_cell dX4_countLevel_56 (w_X6_cell_x (d - 1) _ wc x1 hWa25 (WT_rngI (r := (-2147483648, 2147483647)) hW id rfl hWa25).1 rfl (by omega) (by omega)) (by omega) (Nat.zero_le _) (Nat.zero_le _) (Nat.le_of_ble_eq_true rfl) (fun r56 V56 h56 => ?_)
    obtain ⟨⟨y56, rfl, hf56⟩, hE56⟩ := h56
    have hE56 := hE56.symm
    subst hE56
    have hz56 : jEq y56.toInt (WC25 (x1.toInt).toNat).toInt := by rw [← hf56]; rfl
    clear hf56
    · refine Jz_iadd jEq.rf hz56 dX4_countLevel_59 (by omega) (by omega) (fun y59 he59 => ?_)
      refine Jz_putI hO43 hW id rfl jf_X4_38 jt_X4_12 he59 dX4_countLevel_60 (by omega) (by omega) (fun _ _ => ⟨rfl, rfl⟩) (fun V60 fs60 hW hx60 hO60 hS60 hT60 hB60 => ?_)
      have hK60 : jokO _ (jFs 2) fs60 := hW _ _ id hO60
      have hF60_11 := (hT60 11 (by decide)).trans hS43
      have hF60_3 := (hT60 3 (by decide)).trans hF43_3
      have hF60_4 := (hT60 4 (by decide)).trans hF43_4
      have hF60_5 := (hT60 5 (by decide)).trans hF43_5
      have hF60_6 := (hT60 6 (by decide)).trans hF43_6
      have hF60_7 := (hT60 7 (by decide)).trans hF43_7
      have hF60_0 := (hT60 0 (by decide)).trans hF43_0
      have hF60_1 := (hT60 1 (by decide)).trans hF43_1
      have hF60_2 := (hT60 2 (by decide)).trans hF43_2
      have hF60_10 := (hT60 10 (by decide)).trans hF43_10
      have hF60_13 := (hT60 13 (by decide)).trans hF43_13
      have he := he.trans (hx60.sub (jsub_of rfl))
      have hfp := hfp.trans (jfp.one hB60 List.mem_cons_self)
      have ha0 := ha0.mono hx60.1
      have hb_tk := hb_tk.mono hx60.1
      have hb_wc := hb_wc.mono hx60.1
      have hb_sq := hb_sq.mono hx60.1
      have hb_rc := hb_rc.mono hx60.1
      have hb_bc := hb_bc.mono hx60.1
      have hWa25 := hx60.2 _ _ hWa25 (jnot_of rfl)
      have hSa25 := hx60.2 _ _ hSa25 (jnot_of rfl)
      have hRa25 := hx60.2 _ _ hRa25 (jnot_of rfl)
      have hBa25 := hx60.2 _ _ hBa25 (jnot_of rfl)
      have hTa31 := hx60.2 _ _ hTa31 (jnot_of rfl)
      exact J_ret (r := none) dX4_countLevel_63 ⟨rfl, rfl⟩ (⟨⟨hW, he, rfl⟩, ⟨TK31, WC25, SQ25, RC25, BC25, sp25, x1, y59, hTa31, hWa25, hSa25, hRa25, hBa25, ⟨_, hO60, hF60_13⟩, ⟨_, hO60, hF60_11⟩, ⟨_, hO60, hS60⟩, htk31, heo, hew0, (by first | exact Or.inr ⟨by omega, hd1 (by omega), rfl, rfl⟩ | exact Or.inl ⟨by omega, (hd0 (by omega)).1, by omega, by rw [he59.eq]; exact (hd0 (by omega)).2.1, (hd0 (by omega)).2.2⟩)⟩, hfp, ⟨_, ⟨_, hO60, hF60_0⟩, (by omega)⟩, ⟨_, ⟨_, hO60, hF60_1⟩, (by omega)⟩, ⟨_, ⟨_, hO60, hF60_2⟩, (by omega)⟩⟩)
