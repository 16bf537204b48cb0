set_option maxRecDepth 100000 in
set_option maxHeartbeats 8000000 in
theorem w_X6_ways_z {tS : jTS} (d : Nat) (V0 : jH) (a0 : Nat) (x1 : Int32) (pl : Nat) (w1 : Int32) (h1 : Int32) (op : Int64) (rc : Int32) (aw : Int32) (fw : Int32) (cn : Int32) (sp : Int32) (wb : Nat) (WB : Nat → Int32) (NO : Nat) (hd : 43 ≤ d) (hW : WT V0) (ha0 : jis V0 (.inr 4) a0) (hl1 : 0 ≤ x1.toInt) (hh1 : x1.toInt ≤ 1) (hr_pl : jfR V0 a0 4 6 pl) (hf_w1 : jfI V0 pl 0 1 w1) (hf_h1 : jfI V0 pl 0 2 h1) (hf_op : jfL V0 pl 0 3 op) (hf_rc : jfI V0 pl 0 4 rc) (hf_aw : jfI V0 pl 0 5 aw) (hf_fw : jfI V0 pl 0 6 fw) (hf_cn : jfI V0 pl 0 7 cn) (hf_sp : jfI V0 pl 0 8 sp) (hr_wb : jfR V0 pl 0 0 wb) (ha_WB : V0 wb = some (.inl (12, 36, .inl WB))) (hp0 : 2 ≤ w1.toInt) (hp1 : w1.toInt ≤ 6) (hp2 : 2 ≤ h1.toInt) (hp3 : h1.toInt ≤ 6) (hp4 : ∀ n : Nat, jbt op n = true → 9 ≤ n ∧ n ≤ 54) (hp5 : jbt op 9 = true) (hp6 : jsum (fun n => (jbt op n).toNat) 64 = NO) (hp7 : NO ≤ 36) (hp8 : jwm (jbt op) (w1.toInt + 8 * h1.toInt).toNat NO cn sp rc aw fw WB) : jTot tS mX6_ways d [.ref a0, .int x1] V0 0 0 (fun r V => (jPost [.inr 0, .inl 12] V0 (fun r _ => ∃ y : Int32, r = some (.int y) ∧ ((-2147483648) ≤ y.toInt) ∧ (y.toInt ≤ 2147483647) ∧ ((600000 < (jWY (jbt op) (w1.toInt + 8 * h1.toInt).toNat NO).1 ∧ y.toInt = -5) ∨ ((jWY (jbt op) (w1.toInt + 8 * h1.toInt).toNat NO).1 ≤ 600000 ∧ ((x1.toInt = 0 ∧ y.toInt = ((jWY (jbt op) (w1.toInt + 8 * h1.toInt).toNat NO).2.2.1 : Int)) ∨ (¬ x1.toInt = 0 ∧ y.toInt = ((jWY (jbt op) (w1.toInt + 8 * h1.toInt).toNat NO).2.2.2 : Int))))))) r V ∧ (∃ (WB2 : Nat → Int32) (cn2 rc2 aw2 fw2 sp2 : Int32), V wb = some (.inl (12, 36, .inl WB2)) ∧ jfI V pl 0 7 cn2 ∧ jfI V pl 0 4 rc2 ∧ jfI V pl 0 5 aw2 ∧ jfI V pl 0 6 fw2 ∧ jfI V pl 0 8 sp2 ∧ jwd (jbt op) (w1.toInt + 8 * h1.toInt).toNat NO sp2 rc2 aw2 fw2 WB2) ∧ jkc 0 [1, 2, 3] V0 V) := by
  refine jTot.of_J [some (.ref a0), some (.int x1)] moX6_ways (Nat.le_of_ble_eq_true rfl) rfl ?_
  have he : jeff [.inr 0, .inl 12] V0 V0 := jeff.refl _ _
  have hkp : jkc 0 [1, 2, 3] V0 V0 := jkc.rf
  obtain ⟨fs_a0, hO_a0, hK_a0⟩ := WT_obj hW id ha0
  have hF_pl := hr_pl.get hO_a0
  obtain ⟨w_pl, hFq_pl, b_pl, hbq_pl, hb_pl⟩ := hK_a0.2 6 (.inr (some (.inr 0))) rfl
  cases hF_pl.symm.trans (hFq_pl.trans (congrArg some hbq_pl))
  obtain ⟨fsp, hOp, hKp⟩ := WT_obj hW id hb_pl
  have hF_w1 := hf_w1.get hOp
  have hF_h1 := hf_h1.get hOp
  have hF_op := hf_op.get hOp
  have hF_rc := hf_rc.get hOp
  have hF_aw := hf_aw.get hOp
  have hF_fw := hf_fw.get hOp
  have hF_cn := hf_cn.get hOp
  have hF_sp := hf_sp.get hOp
  have hF_wb := hr_wb.get hOp
  have hb_wb : jis V0 (.inl 12) wb := ⟨_, ha_WB, rfl⟩
  refine J_aload_n dX6_ways_0 rfl ?_
  refine J_get jf_X6_42 dX6_ways_1 hO_a0 hF_pl ?_
  refine Jw_callV0 (q9 := (RX2, TX2, 9)) moX2_holds jw_ml_X6_220 jw_im_X2_holds jw_se_X2_holds hb_pl rfl rfl dX6_ways_4 (w_X2_holds_z (d - 1) _ pl w1 h1 rc aw fw sp cn op wb NO WB (by omega) hW  hb_pl ⟨_, hOp, hF_w1⟩ ⟨_, hOp, hF_h1⟩ ⟨_, hOp, hF_rc⟩ ⟨_, hOp, hF_aw⟩ ⟨_, hOp, hF_fw⟩ ⟨_, hOp, hF_sp⟩ ⟨_, hOp, hF_cn⟩ ⟨_, hOp, hF_op⟩ ⟨_, hOp, hF_wb⟩ ha_WB (by omega) (by omega) (by omega) (by omega) (by omega) (by omega) (by omega) (by omega) (by omega)) (by omega) (Nat.zero_le _) (Nat.zero_le _) (Nat.le_of_ble_eq_true rfl) (fun r4 V4 h4 => ?_)
  obtain ⟨h4, hX4_0, hX4_1, hX4_2, ⟨fv4_0, hfv4_0, hfp4_0⟩, ⟨fv4_1, hfv4_1, hfp4_1⟩⟩ := h4
  obtain ⟨hW, hx4, hr4⟩ := h4
  have he := he.trans (hx4.sub (jsub_of rfl))
  have hkp := hkp.trans hX4_1
  have ha0 := ha0.mono hx4.1
  have hb_pl := hb_pl.mono hx4.1
  have hb_wb := hb_wb.mono hx4.1
  have hO_a0 := hx4.2 _ _ hO_a0 (jnot_of rfl)
  have hK_a0 := hK_a0.mono hx4.1
  obtain ⟨fs4pl, hOfs4pl, hRfs4pl⟩ := hx4.1.keep hOp
  have hKfs4pl : jokO _ (jFs 0) fs4pl := hW _ _ id hOfs4pl
  have hFfs4pl_0 := hRfs4pl _ _ hF_wb
  obtain ⟨y4, rfl, hl4, hh4, hP4_0⟩ := hr4
  have hFv4_0 := hfv4_0.get hOfs4pl
  have hsb4_0 : w1 = fv4_0 := (jI_inj.mp hfp4_0).symm
  subst hsb4_0
  have hFv4_1 := hfv4_1.get hOfs4pl
  have hsb4_1 : h1 = fv4_1 := (jI_inj.mp hfp4_1).symm
  subst hsb4_1
  obtain ⟨WB4, cn4, rc4, aw4, fw4, sp4, hWa4, hcf4, hrf4, haf4, hff4, hsf4, hjd⟩ := id hX4_0
  have hjs := hjd.say
  have hFv47 := hcf4.get hOfs4pl
  have hFv44 := hrf4.get hOfs4pl
  have hFv45 := haf4.get hOfs4pl
  have hFv46 := hff4.get hOfs4pl
  have hFv48 := hsf4.get hOfs4pl
  obtain ⟨hN_WB4, hv_WB4⟩ := WT_rngI (r := ((-2147483648), 2147483647)) hW id rfl hWa4
  clear hN_WB4
  refine Jz_if_ne (tgt := 13) jEq.rf dX6_ways_7 (by decide) (fun c7 => ?_) (fun c7 => ?_)
  · refine J_iload_n dX6_ways_13 rfl ?_
    refine Jz_if_eq (tgt := 27) jEq.rf dX6_ways_14 (by decide) (fun c14 => ?_) (fun c14 => ?_)
    · refine J_aload_n dX6_ways_27 rfl ?_
      refine J_get jf_X6_42 dX6_ways_28 hO_a0 hF_pl ?_
      refine J_get jf_X6_225 dX6_ways_31 hOfs4pl hFv45 ?_
      exact J_ret (r := some (.int _)) dX6_ways_34 ⟨rfl, _, rfl, rfl⟩ (⟨⟨hW, he, ⟨_, rfl, (j_rng _).1, (j_rng _).2, (by rcases hjs with ⟨q1, q2, q3, q4, -⟩ | ⟨q1, q2⟩; (first | exact Or.inr ⟨q2, Or.inl ⟨by omega, q3⟩⟩ | exact Or.inr ⟨q2, Or.inr ⟨by omega, q4⟩⟩); omega)⟩⟩, hX4_0, hkp⟩)
    · refine J_aload_n dX6_ways_17 rfl ?_
      refine J_get jf_X6_42 dX6_ways_18 hO_a0 hF_pl ?_
      refine J_get jf_X6_222 dX6_ways_21 hOfs4pl hFv46 ?_
      refine J_goto (tgt := 34) dX6_ways_24 (by decide) ?_
      exact J_ret (r := some (.int _)) dX6_ways_34 ⟨rfl, _, rfl, rfl⟩ (⟨⟨hW, he, ⟨_, rfl, (j_rng _).1, (j_rng _).2, (by rcases hjs with ⟨q1, q2, q3, q4, -⟩ | ⟨q1, q2⟩; (first | exact Or.inr ⟨q2, Or.inl ⟨by omega, q3⟩⟩ | exact Or.inr ⟨q2, Or.inr ⟨by omega, q4⟩⟩); omega)⟩⟩, hX4_0, hkp⟩)
  · refine Jz_bipush (-5) dX6_ways_10 (by decide) (fun y10 he10 => ?_)
    exact J_ret (r := some (.int _)) dX6_ways_12 ⟨rfl, _, rfl, rfl⟩ (⟨⟨hW, he, ⟨_, rfl, (j_rng _).1, (j_rng _).2, (Or.inl ⟨by omega, he10.eq⟩)⟩⟩, hX4_0, hkp⟩)
