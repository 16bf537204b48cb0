set_option maxRecDepth 100000 in
set_option maxHeartbeats 8000000 in
theorem w_X2_holds_z {tS : jTS} (d : Nat) (V0 : jH) (a0 : Nat) (w1 : Int32) (h1 : Int32) (rc : Int32) (aw : Int32) (fw : Int32) (sp : Int32) (cn : Int32) (op : Int64) (wb : Nat) (NO : Nat) (WB : Nat → Int32) (hd : 42 ≤ d) (hW : WT V0) (ha0 : jis V0 (.inr 0) a0) (hf_w1 : jfI V0 a0 0 1 w1) (hf_h1 : jfI V0 a0 0 2 h1) (hf_rc : jfI V0 a0 0 4 rc) (hf_aw : jfI V0 a0 0 5 aw) (hf_fw : jfI V0 a0 0 6 fw) (hf_sp : jfI V0 a0 0 8 sp) (hf_cn : jfI V0 a0 0 7 cn) (hq_op : jfL V0 a0 0 3 op) (hr_wb : jfR V0 a0 0 0 wb) (ha_WB : V0 wb = some (.inl (12, 36, .inl WB))) (hp0 : 2 ≤ w1.toInt) (hp1 : w1.toInt ≤ 6) (hp2 : 2 ≤ h1.toInt) (hp3 : h1.toInt ≤ 6) (hp4 : ∀ n : Nat, jbt op n = true → 9 ≤ n ∧ n ≤ 54) (hp5 : jbt op 9 = true) (hp6 : jsum (fun n => (jbt op n).toNat) 64 = NO) (hp7 : NO ≤ 36) (hp8 : jwm (jbt op) (w1.toInt + 8 * h1.toInt).toNat NO cn sp rc aw fw WB) : jTot tS mX2_holds d [.ref a0] V0 0 0 (fun r V => (jPost [.inr 0, .inl 12] V0 (fun r _ => ∃ y : Int32, r = some (.int y) ∧ (0 ≤ y.toInt) ∧ (y.toInt ≤ 1) ∧ ((y.toInt = 1 ∧ (jWY (jbt op) (w1.toInt + 8 * h1.toInt).toNat NO).1 ≤ 600000) ∨ (y.toInt = 0 ∧ 600000 < (jWY (jbt op) (w1.toInt + 8 * h1.toInt).toNat NO).1)))) r V ∧ (∃ (WB2 : Nat → Int32) (cn2 rc2 aw2 fw2 sp2 : Int32), V wb = some (.inl (12, 36, .inl WB2)) ∧ jfI V a0 0 7 cn2 ∧ jfI V a0 0 4 rc2 ∧ jfI V a0 0 5 aw2 ∧ jfI V a0 0 6 fw2 ∧ jfI V a0 0 8 sp2 ∧ jwd (jbt op) (w1.toInt + 8 * h1.toInt).toNat NO sp2 rc2 aw2 fw2 WB2) ∧ jkc 0 [1, 2, 3] V0 V ∧ jfp [a0, wb] V0 V ∧ (∃ w12 : Int32, jfI V a0 0 1 w12 ∧ (w12.toInt = w1.toInt)) ∧ (∃ h12 : Int32, jfI V a0 0 2 h12 ∧ (h12.toInt = h1.toInt))) := by
  refine jTot.of_J [some (.ref a0)] moX2_holds (Nat.le_of_ble_eq_true rfl) rfl ?_
  have he : jeff [.inr 0, .inl 12] V0 V0 := jeff.refl _ _
  have hkp : jkc 0 [1, 2, 3] V0 V0 := jkc.rf
  have hfp : jfp [a0, wb] V0 V0 := jfp.rf
  obtain ⟨fs_a0, hO_a0, hK_a0⟩ := WT_obj hW id ha0
  have hF_w1 := hf_w1.get hO_a0
  have hrw1 : (-2147483648) ≤ w1.toInt ∧ w1.toInt ≤ 2147483647 := jok_rngI hK_a0 rfl hF_w1
  have hF_h1 := hf_h1.get hO_a0
  have hrh1 : (-2147483648) ≤ h1.toInt ∧ h1.toInt ≤ 2147483647 := jok_rngI hK_a0 rfl hF_h1
  have hF_rc := hf_rc.get hO_a0
  have hrrc : (-2147483648) ≤ rc.toInt ∧ rc.toInt ≤ 2147483647 := jok_rngI hK_a0 rfl hF_rc
  have hF_aw := hf_aw.get hO_a0
  have hraw : (-2147483648) ≤ aw.toInt ∧ aw.toInt ≤ 2147483647 := jok_rngI hK_a0 rfl hF_aw
  have hF_fw := hf_fw.get hO_a0
  have hrfw : (-2147483648) ≤ fw.toInt ∧ fw.toInt ≤ 2147483647 := jok_rngI hK_a0 rfl hF_fw
  have hF_sp := hf_sp.get hO_a0
  have hrsp : 0 ≤ sp.toInt ∧ sp.toInt ≤ 1 := jok_rngI hK_a0 rfl hF_sp
  have hF_cn := hf_cn.get hO_a0
  have hrcn : 0 ≤ cn.toInt ∧ cn.toInt ≤ 1 := jok_rngI hK_a0 rfl hF_cn
  have hF_op := hq_op.get hO_a0
  have hF_wb := hr_wb.get hO_a0
  obtain ⟨w_wb, hFq_wb, b_wb, hbq_wb, hb_wb⟩ := hK_a0.2 0 (.inr (some (.inl 12))) rfl
  cases hF_wb.symm.trans (hFq_wb.trans (congrArg some hbq_wb))
  obtain ⟨hN_WB, hv_WB⟩ := WT_rngI (r := ((-2147483648), 2147483647)) hW id rfl ha_WB
  clear hN_WB
  refine J_aload_n dX2_holds_0 rfl ?_
  refine J_get jf_X2_35 dX2_holds_1 hO_a0 hF_cn ?_
  refine Jz_if_ne (tgt := 16) jEq.rf dX2_holds_4 (by decide) (fun c4 => ?_) (fun c4 => ?_)
  · have hjd := hp8 (by omega)
    refine J_aload_n dX2_holds_16 rfl ?_
    have hjs := hjd.say
    refine J_get jf_X2_39 dX2_holds_17 hO_a0 hF_sp ?_
    refine Jz_if_ne (tgt := 27) jEq.rf dX2_holds_20 (by decide) (fun c20 => ?_) (fun c20 => ?_)
    · refine Jz_iconst 0 dX2_holds_27 (by decide) (fun y27 he27 => ?_)
      exact J_ret (r := some (.int _)) dX2_holds_28 ⟨rfl, _, rfl, (nar_b (by (try simp only [he27.eq, true_and, and_true]) <;> omega) (by (try simp only [he27.eq, true_and, and_true]) <;> omega))⟩ (⟨⟨hW, he, ⟨_, rfl, (by (try simp only [he27.eq, true_and, and_true]) <;> omega), (by (try simp only [he27.eq, true_and, and_true]) <;> omega), (by rcases hjs with ⟨q1, q2, -⟩ | ⟨q1, q2⟩; exact absurd q1 c20; exact Or.inr ⟨he27.eq, q2⟩)⟩⟩, ⟨WB, cn, rc, aw, fw, sp, ha_WB, ⟨_, hO_a0, hF_cn⟩, ⟨_, hO_a0, hF_rc⟩, ⟨_, hO_a0, hF_aw⟩, ⟨_, hO_a0, hF_fw⟩, ⟨_, hO_a0, hF_sp⟩, hjd⟩, hkp, hfp, ⟨_, ⟨_, hO_a0, hF_w1⟩, (by omega)⟩, ⟨_, ⟨_, hO_a0, hF_h1⟩, (by omega)⟩⟩)
    · refine Jz_iconst 1 dX2_holds_23 (by decide) (fun y23 he23 => ?_)
      refine J_goto (tgt := 28) dX2_holds_24 (by decide) ?_
      exact J_ret (r := some (.int _)) dX2_holds_28 ⟨rfl, _, rfl, (nar_b (by (try simp only [he23.eq, true_and, and_true]) <;> omega) (by (try simp only [he23.eq, true_and, and_true]) <;> omega))⟩ (⟨⟨hW, he, ⟨_, rfl, (by (try simp only [he23.eq, true_and, and_true]) <;> omega), (by (try simp only [he23.eq, true_and, and_true]) <;> omega), (by rcases hjs with ⟨q1, q2, -⟩ | ⟨q1, q2⟩; exact Or.inl ⟨he23.eq, q2⟩; omega)⟩⟩, ⟨WB, cn, rc, aw, fw, sp, ha_WB, ⟨_, hO_a0, hF_cn⟩, ⟨_, hO_a0, hF_rc⟩, ⟨_, hO_a0, hF_aw⟩, ⟨_, hO_a0, hF_fw⟩, ⟨_, hO_a0, hF_sp⟩, hjd⟩, hkp, hfp, ⟨_, ⟨_, hO_a0, hF_w1⟩, (by omega)⟩, ⟨_, ⟨_, hO_a0, hF_h1⟩, (by omega)⟩⟩)
  · refine J_aload_n dX2_holds_7 rfl ?_
    refine Jw_callV0 (q9 := (RX2, TX2, 9)) moX2_countWays jw_ml_X2_54 jw_im_X2_countWays jw_se_X2_countWays ha0 rfl rfl dX2_holds_8 (w_X2_countWays_z (d - 1) _ a0 w1 h1 op wb NO WB (by omega) hW  ha0 ⟨_, hO_a0, hF_w1⟩ ⟨_, hO_a0, hF_h1⟩ ⟨_, hO_a0, hF_op⟩ ⟨_, hO_a0, hF_wb⟩ ha_WB (by omega) (by omega) (by omega) (by omega) (by omega) (by omega) (by omega) (by omega)) (by omega) (Nat.zero_le _) (Nat.zero_le _) (Nat.le_of_ble_eq_true rfl) (fun r8 V8 h8 => ?_)
    obtain ⟨h8, hX8_0, hX8_1, hX8_2, ⟨fv8_0, hfv8_0, hfp8_0⟩, ⟨fv8_1, hfv8_1, hfp8_1⟩⟩ := h8
    obtain ⟨hW, hx8, hr8⟩ := h8
    have he := he.trans (hx8.sub (jsub_of rfl))
    have hkp := hkp.trans hX8_1
    have hfp := hfp.trans (hX8_2.sub (fun b hb => by simp only [List.mem_cons, List.not_mem_nil, or_false] at hb ⊢; first | (rcases hb with h9 | h9 <;> simp only [h9, true_or, or_true]) | omega))
    have ha0 := ha0.mono hx8.1
    have hb_wb := hb_wb.mono hx8.1
    obtain ⟨fs8a0, hOfs8a0, hRfs8a0⟩ := hx8.1.keep hO_a0
    have hKfs8a0 : jokO _ (jFs 0) fs8a0 := hW _ _ id hOfs8a0
    have hFfs8a0_0 := hRfs8a0 _ _ hF_wb
    cases hr8
    have hFv8_0 := hfv8_0.get hOfs8a0
    have hsb8_0 : w1 = fv8_0 := (jI_inj.mp hfp8_0).symm
    subst hsb8_0
    have hFv8_1 := hfv8_1.get hOfs8a0
    have hsb8_1 : h1 = fv8_1 := (jI_inj.mp hfp8_1).symm
    subst hsb8_1
    obtain ⟨WB8, rc8, aw8, fw8, sp8, hWa8, hrf8, haf8, hff8, hsf8, hjd⟩ := hX8_0
    have hFv84 := hrf8.get hOfs8a0
    have hFv85 := haf8.get hOfs8a0
    have hFv86 := hff8.get hOfs8a0
    have hFv88 := hsf8.get hOfs8a0
    obtain ⟨hN_WB8, hv_WB8⟩ := WT_rngI (r := ((-2147483648), 2147483647)) hW id rfl hWa8
    clear hN_WB8
    refine J_aload_n dX2_holds_11 rfl ?_
    refine Jz_iconst 1 dX2_holds_12 (by decide) (fun y12 he12 => ?_)
    refine Jz_putI hOfs8a0 hW id rfl jf_X2_35 jt_X2_7 he12 dX2_holds_13 (by omega) (by omega) (fun _ h => ⟨nar_b (by omega) (by omega), fit_b (by omega) (by omega)⟩) (fun V13 fs13 hW hx13 hO13 hS13 hT13 hB13 => ?_)
    have hK13 : jokO _ (jFs 0) fs13 := hW _ _ id hO13
    have hF13_0 := (hT13 0 (by decide)).trans hFfs8a0_0
    have hF13_1 := (hT13 1 (by decide)).trans hFv8_0
    have hF13_2 := (hT13 2 (by decide)).trans hFv8_1
    have hF13_4 := (hT13 4 (by decide)).trans hFv84
    have hF13_5 := (hT13 5 (by decide)).trans hFv85
    have hF13_6 := (hT13 6 (by decide)).trans hFv86
    have hF13_8 := (hT13 8 (by decide)).trans hFv88
    have he := he.trans (hx13.sub (jsub_of rfl))
    have hkp := hkp.trans (jkc.put hOfs8a0 hO13 hT13 hB13 (by decide))
    have hfp := hfp.trans (jfp.one hB13 List.mem_cons_self)
    have ha0 := ha0.mono hx13.1
    have hb_wb := hb_wb.mono hx13.1
    have hWa8 := hx13.2 _ _ hWa8 (jnot_of rfl)
    refine J_aload_n dX2_holds_16 rfl ?_
    have hjs := hjd.say
    refine J_get jf_X2_39 dX2_holds_17 hO13 hF13_8 ?_
    refine Jz_if_ne (tgt := 27) jEq.rf dX2_holds_20 (by decide) (fun c20 => ?_) (fun c20 => ?_)
    · refine Jz_iconst 0 dX2_holds_27 (by decide) (fun y27 he27 => ?_)
      exact J_ret (r := some (.int _)) dX2_holds_28 ⟨rfl, _, rfl, (nar_b (by (try simp only [he27.eq, true_and, and_true]) <;> omega) (by (try simp only [he27.eq, true_and, and_true]) <;> omega))⟩ (⟨⟨hW, he, ⟨_, rfl, (by (try simp only [he27.eq, true_and, and_true]) <;> omega), (by (try simp only [he27.eq, true_and, and_true]) <;> omega), (by rcases hjs with ⟨q1, q2, -⟩ | ⟨q1, q2⟩; exact absurd q1 c20; exact Or.inr ⟨he27.eq, q2⟩)⟩⟩, ⟨WB8, y12, rc8, aw8, fw8, sp8, hWa8, ⟨_, hO13, hS13⟩, ⟨_, hO13, hF13_4⟩, ⟨_, hO13, hF13_5⟩, ⟨_, hO13, hF13_6⟩, ⟨_, hO13, hF13_8⟩, hjd⟩, hkp, hfp, ⟨_, ⟨_, hO13, hF13_1⟩, (by omega)⟩, ⟨_, ⟨_, hO13, hF13_2⟩, (by omega)⟩⟩)
    · refine Jz_iconst 1 dX2_holds_23 (by decide) (fun y23 he23 => ?_)
      refine J_goto (tgt := 28) dX2_holds_24 (by decide) ?_
      exact J_ret (r := some (.int _)) dX2_holds_28 ⟨rfl, _, rfl, (nar_b (by (try simp only [he23.eq, true_and, and_true]) <;> omega) (by (try simp only [he23.eq, true_and, and_true]) <;> omega))⟩ (⟨⟨hW, he, ⟨_, rfl, (by (try simp only [he23.eq, true_and, and_true]) <;> omega), (by (try simp only [he23.eq, true_and, and_true]) <;> omega), (by rcases hjs with ⟨q1, q2, -⟩ | ⟨q1, q2⟩; exact Or.inl ⟨he23.eq, q2⟩; omega)⟩⟩, ⟨WB8, y12, rc8, aw8, fw8, sp8, hWa8, ⟨_, hO13, hS13⟩, ⟨_, hO13, hF13_4⟩, ⟨_, hO13, hF13_5⟩, ⟨_, hO13, hF13_6⟩, ⟨_, hO13, hF13_8⟩, hjd⟩, hkp, hfp, ⟨_, ⟨_, hO13, hF13_1⟩, (by omega)⟩, ⟨_, ⟨_, hO13, hF13_2⟩, (by omega)⟩⟩)
