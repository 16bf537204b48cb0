set_option maxRecDepth 100000 in
set_option maxHeartbeats 8000000 in
theorem w_X6_waysOf_z {tS : jTS} (d : Nat) (V0 : jH) (a0 : Nat) (x1 : Int32) (pl : Nat) (w1 : Int32) (h1 : Int32) (op : Int64) (rc : Int32) (aw : Int32) (fw : Int32) (cn : Int32) (sp : Int32) (wb : Nat) (WB : Nat → Int32) (NO : Nat) (hd : 43 ≤ d) (hW : WT V0) (ha0 : jis V0 (.inr 4) a0) (hr_pl : jfR V0 a0 4 6 pl) (hf_w1 : jfI V0 pl 0 1 w1) (hf_h1 : jfI V0 pl 0 2 h1) (hf_op : jfL V0 pl 0 3 op) (hf_rc : jfI V0 pl 0 4 rc) (hf_aw : jfI V0 pl 0 5 aw) (hf_fw : jfI V0 pl 0 6 fw) (hf_cn : jfI V0 pl 0 7 cn) (hf_sp : jfI V0 pl 0 8 sp) (hr_wb : jfR V0 pl 0 0 wb) (ha_WB : V0 wb = some (.inl (12, 36, .inl WB))) (hp0 : 2 ≤ w1.toInt) (hp1 : w1.toInt ≤ 6) (hp2 : 2 ≤ h1.toInt) (hp3 : h1.toInt ≤ 6) (hp4 : ∀ n : Nat, jbt op n = true → 9 ≤ n ∧ n ≤ 54) (hp5 : jbt op 9 = true) (hp6 : jsum (fun n => (jbt op n).toNat) 64 = NO) (hp7 : NO ≤ 36) (hp8 : jwm (jbt op) (w1.toInt + 8 * h1.toInt).toNat NO cn sp rc aw fw WB) : jTot tS mX6_waysOf d [.ref a0, .int x1] V0 0 0 (fun r V => (jPost [.inr 0, .inl 12] V0 (fun r _ => ∃ y : Int32, r = some (.int y) ∧ ((-2147483648) ≤ y.toInt) ∧ (y.toInt ≤ 2147483647) ∧ ((x1.toInt < 0 ∧ y.toInt = -2) ∨ (0 ≤ x1.toInt ∧ 600000 < (jWY (jbt op) (w1.toInt + 8 * h1.toInt).toNat NO).1 ∧ y.toInt = -5) ∨ (0 ≤ x1.toInt ∧ (jWY (jbt op) (w1.toInt + 8 * h1.toInt).toNat NO).1 ≤ 600000 ∧ ((x1.toInt < 36 ∧ y.toInt = ((jWY (jbt op) (w1.toInt + 8 * h1.toInt).toNat NO).2.1 x1.toInt.toNat : Int)) ∨ (36 ≤ x1.toInt ∧ y.toInt = 0)))))) r V ∧ (∃ (WB2 : Nat → Int32) (cn2 rc2 aw2 fw2 sp2 : Int32), V wb = some (.inl (12, 36, .inl WB2)) ∧ jfI V pl 0 7 cn2 ∧ jfI V pl 0 4 rc2 ∧ jfI V pl 0 5 aw2 ∧ jfI V pl 0 6 fw2 ∧ jfI V pl 0 8 sp2 ∧ jwm (jbt op) (w1.toInt + 8 * h1.toInt).toNat NO cn2 sp2 rc2 aw2 fw2 WB2) ∧ jkc 0 [1, 2, 3] V0 V) := by
  refine jTot.of_J [some (.ref a0), some (.int x1)] moX6_waysOf (Nat.le_of_ble_eq_true rfl) rfl ?_
  have hrx1 := j_rng x1
  have he : jeff [.inr 0, .inl 12] V0 V0 := jeff.refl _ _
  have hkp : jkc 0 [1, 2, 3] V0 V0 := jkc.rf
  obtain ⟨fs_a0, hO_a0, hK_a0⟩ := WT_obj hW id ha0
  have hF_pl := hr_pl.get hO_a0
  obtain ⟨w_pl, hFq_pl, b_pl, hbq_pl, hb_pl⟩ := hK_a0.2 6 (.inr (some (.inr 0))) rfl
  cases hF_pl.symm.trans (hFq_pl.trans (congrArg some hbq_pl))
  obtain ⟨fsp, hOp, hKp⟩ := WT_obj hW id hb_pl
  have hF_w1 := hf_w1.get hOp
  have hF_h1 := hf_h1.get hOp
  have hF_op := hf_op.get hOp
  have hF_rc := hf_rc.get hOp
  have hF_aw := hf_aw.get hOp
  have hF_fw := hf_fw.get hOp
  have hF_cn := hf_cn.get hOp
  have hF_sp := hf_sp.get hOp
  have hF_wb := hr_wb.get hOp
  have hb_wb : jis V0 (.inl 12) wb := ⟨_, ha_WB, rfl⟩
  refine J_iload_n dX6_waysOf_0 rfl ?_
  refine Jz_if_ge (tgt := 7) jEq.rf dX6_waysOf_1 (by decide) (fun c1 => ?_) (fun c1 => ?_)
  · refine J_aload_n dX6_waysOf_7 rfl ?_
    refine J_get jf_X6_42 dX6_waysOf_8 hO_a0 hF_pl ?_
    refine Jw_callV0 (q9 := (RX2, TX2, 9)) moX2_holds jw_ml_X6_220 jw_im_X2_holds jw_se_X2_holds hb_pl rfl rfl dX6_waysOf_11 (w_X2_holds_z (d - 1) _ pl w1 h1 rc aw fw sp cn op wb NO WB (by omega) hW  hb_pl ⟨_, hOp, hF_w1⟩ ⟨_, hOp, hF_h1⟩ ⟨_, hOp, hF_rc⟩ ⟨_, hOp, hF_aw⟩ ⟨_, hOp, hF_fw⟩ ⟨_, hOp, hF_sp⟩ ⟨_, hOp, hF_cn⟩ ⟨_, hOp, hF_op⟩ ⟨_, hOp, hF_wb⟩ ha_WB (by omega) (by omega) (by omega) (by omega) (by omega) (by omega) (by omega) (by omega) (by omega)) (by omega) (Nat.zero_le _) (Nat.zero_le _) (Nat.le_of_ble_eq_true rfl) (fun r11 V11 h11 => ?_)
    obtain ⟨h11, hX11_0, hX11_1, hX11_2, ⟨fv11_0, hfv11_0, hfp11_0⟩, ⟨fv11_1, hfv11_1, hfp11_1⟩⟩ := h11
    obtain ⟨hW, hx11, hr11⟩ := h11
    have he := he.trans (hx11.sub (jsub_of rfl))
    have hkp := hkp.trans hX11_1
    have ha0 := ha0.mono hx11.1
    have hb_pl := hb_pl.mono hx11.1
    have hb_wb := hb_wb.mono hx11.1
    have hO_a0 := hx11.2 _ _ hO_a0 (jnot_of rfl)
    have hK_a0 := hK_a0.mono hx11.1
    obtain ⟨fs11pl, hOfs11pl, hRfs11pl⟩ := hx11.1.keep hOp
    have hKfs11pl : jokO _ (jFs 0) fs11pl := hW _ _ id hOfs11pl
    have hFfs11pl_0 := hRfs11pl _ _ hF_wb
    obtain ⟨y11, rfl, hl11, hh11, hP11_0⟩ := hr11
    have hFv11_0 := hfv11_0.get hOfs11pl
    have hsb11_0 : w1 = fv11_0 := (jI_inj.mp hfp11_0).symm
    subst hsb11_0
    have hFv11_1 := hfv11_1.get hOfs11pl
    have hsb11_1 : h1 = fv11_1 := (jI_inj.mp hfp11_1).symm
    subst hsb11_1
    obtain ⟨WB11, cn11, rc11, aw11, fw11, sp11, hWa11, hcf11, hrf11, haf11, hff11, hsf11, hjd⟩ := id hX11_0
    have hjs := hjd.say
    have hFv117 := hcf11.get hOfs11pl
    have hFv114 := hrf11.get hOfs11pl
    have hFv115 := haf11.get hOfs11pl
    have hFv116 := hff11.get hOfs11pl
    have hFv118 := hsf11.get hOfs11pl
    obtain ⟨hN_WB11, hv_WB11⟩ := WT_rngI (r := ((-2147483648), 2147483647)) hW id rfl hWa11
    clear hN_WB11
    refine Jz_if_eq (tgt := 31) jEq.rf dX6_waysOf_14 (by decide) (fun c14 => ?_) (fun c14 => ?_)
    · refine Jz_bipush (-5) dX6_waysOf_31 (by decide) (fun y31 he31 => ?_)
      exact J_ret (r := some (.int _)) dX6_waysOf_33 ⟨rfl, _, rfl, rfl⟩ (⟨⟨hW, he, ⟨_, rfl, (j_rng _).1, (j_rng _).2, (by rcases hjs with ⟨q1, q2, q3, q4, q5⟩ | ⟨q1, q2⟩; (first | exact Or.inr (Or.inr ⟨by omega, q2, hq25.elim (fun w => Or.inl ⟨w.1, w.2 ▸ q5 _ (by omega)⟩) (fun w => Or.inr ⟨w.1, w.2⟩)⟩) | omega); (first | exact Or.inr (Or.inl ⟨by omega, q2, he31.eq⟩) | omega))⟩⟩, ⟨WB11, cn11, rc11, aw11, fw11, sp11, hWa11, hcf11, hrf11, haf11, hff11, hsf11, fun _ => hjd⟩, hkp⟩)
    · refine J_aload_n dX6_waysOf_17 rfl ?_
      refine J_get jf_X6_42 dX6_waysOf_18 hO_a0 hF_pl ?_
      refine J_get jf_X6_228 dX6_waysOf_21 hOfs11pl hFfs11pl_0 ?_
      refine J_iload_n dX6_waysOf_24 rfl ?_
      refine J_callS2 moX6_cell jw_ml_X6_110 jw_st_X6_cell dX6_waysOf_25 (w_X6_cell_o (d - 1) _ wb x1 hWa11 (WT_rngI (r := (-2147483648, 2147483647)) hW id rfl hWa11).1 rfl (by omega)) (by omega) (Nat.zero_le _) (Nat.zero_le _) (Nat.le_of_ble_eq_true rfl) (fun r25 V25 h25 => ?_)
      obtain ⟨⟨y25, rfl, hq25⟩, hE25⟩ := h25
      have hE25 := hE25.symm
      subst hE25
      · refine J_goto (tgt := 33) dX6_waysOf_28 (by decide) ?_
        exact J_ret (r := some (.int _)) dX6_waysOf_33 ⟨rfl, _, rfl, rfl⟩ (⟨⟨hW, he, ⟨_, rfl, (j_rng _).1, (j_rng _).2, (by rcases hjs with ⟨q1, q2, q3, q4, q5⟩ | ⟨q1, q2⟩; (first | exact Or.inr (Or.inr ⟨by omega, q2, hq25.elim (fun w => Or.inl ⟨w.1, w.2 ▸ q5 _ (by omega)⟩) (fun w => Or.inr ⟨w.1, w.2⟩)⟩) | omega); (first | exact Or.inr (Or.inl ⟨by omega, q2, he31.eq⟩) | omega))⟩⟩, ⟨WB11, cn11, rc11, aw11, fw11, sp11, hWa11, hcf11, hrf11, haf11, hff11, hsf11, fun _ => hjd⟩, hkp⟩)
  · refine Jz_bipush (-2) dX6_waysOf_4 (by decide) (fun y4 he4 => ?_)
    exact J_ret (r := some (.int _)) dX6_waysOf_6 ⟨rfl, _, rfl, rfl⟩ (⟨⟨hW, he, ⟨_, rfl, (j_rng _).1, (j_rng _).2, (Or.inl ⟨by omega, he4.eq⟩)⟩⟩, ⟨WB, cn, rc, aw, fw, sp, ha_WB, hf_cn, hf_rc, hf_aw, hf_fw, hf_sp, hp8⟩, hkp⟩)
