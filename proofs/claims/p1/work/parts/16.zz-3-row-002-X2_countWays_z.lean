set_option maxRecDepth 100000 in
set_option maxHeartbeats 8000000 in
theorem w_X2_countWays_z {tS : jTS} (d : Nat) (V0 : jH) (a0 : Nat) (w1 : Int32) (h1 : Int32) (op : Int64) (wb : Nat) (NO : Nat) (WB : Nat → Int32) (hd : 41 ≤ d) (hW : WT V0) (ha0 : jis V0 (.inr 0) a0) (hf_w1 : jfI V0 a0 0 1 w1) (hf_h1 : jfI V0 a0 0 2 h1) (hq_op : jfL V0 a0 0 3 op) (hr_wb : jfR V0 a0 0 0 wb) (ha_WB : V0 wb = some (.inl (12, 36, .inl WB))) (hp0 : 2 ≤ w1.toInt) (hp1 : w1.toInt ≤ 6) (hp2 : 2 ≤ h1.toInt) (hp3 : h1.toInt ≤ 6) (hp4 : ∀ n : Nat, jbt op n = true → 9 ≤ n ∧ n ≤ 54) (hp5 : jbt op 9 = true) (hp6 : jsum (fun n => (jbt op n).toNat) 64 = NO) (hp7 : NO ≤ 36) : jTot tS mX2_countWays d [.ref a0] V0 0 0 (fun r V => (jPost [.inr 0, .inl 12] V0 rV) r V ∧ (∃ (WB2 : Nat → Int32) (rc2 aw2 fw2 sp2 : Int32), V wb = some (.inl (12, 36, .inl WB2)) ∧ jfI V a0 0 4 rc2 ∧ jfI V a0 0 5 aw2 ∧ jfI V a0 0 6 fw2 ∧ jfI V a0 0 8 sp2 ∧ jwd (jbt op) (w1.toInt + 8 * h1.toInt).toNat NO sp2 rc2 aw2 fw2 WB2) ∧ jkc 0 [1, 2, 3] V0 V ∧ jfp [a0, wb] V0 V ∧ (∃ w12 : Int32, jfI V a0 0 1 w12 ∧ (w12.toInt = w1.toInt)) ∧ (∃ h12 : Int32, jfI V a0 0 2 h12 ∧ (h12.toInt = h1.toInt))) := by
  refine jTot.of_J [some (.ref a0), none] moX2_countWays (Nat.le_of_ble_eq_true rfl) rfl ?_
  have he : jeff [.inr 0, .inl 12] V0 V0 := jeff.refl _ _
  have hkp : jkc 0 [1, 2, 3] V0 V0 := jkc.rf
  have hfp : jfp [a0, wb] V0 V0 := jfp.rf
  obtain ⟨fs_a0, hO_a0, hK_a0⟩ := WT_obj hW id ha0
  have hF_w1 := hf_w1.get hO_a0
  have hrw1 : (-2147483648) ≤ w1.toInt ∧ w1.toInt ≤ 2147483647 := jok_rngI hK_a0 rfl hF_w1
  have hF_h1 := hf_h1.get hO_a0
  have hrh1 : (-2147483648) ≤ h1.toInt ∧ h1.toInt ≤ 2147483647 := jok_rngI hK_a0 rfl hF_h1
  have hF_op := hq_op.get hO_a0
  have hF_wb := hr_wb.get hO_a0
  obtain ⟨w_wb, hFq_wb, b_wb, hbq_wb, hb_wb⟩ := hK_a0.2 0 (.inr (some (.inl 12))) rfl
  cases hF_wb.symm.trans (hFq_wb.trans (congrArg some hbq_wb))
  obtain ⟨hN_WB, hv_WB⟩ := WT_rngI (r := ((-2147483648), 2147483647)) hW id rfl ha_WB
  clear hN_WB
  refine J_aload_n dX2_countWays_0 rfl ?_
  refine Jz_iconst 0 dX2_countWays_1 (by decide) (fun y1 he1 => ?_)
  refine Jz_putI hO_a0 hW id rfl jf_X2_26 jt_X2_4 he1 dX2_countWays_2 (by omega) (by omega) (fun _ _ => ⟨rfl, rfl⟩) (fun V2 fs2 hW hx2 hO2 hS2 hT2 hB2 => ?_)
  have hK2 : jokO _ (jFs 0) fs2 := hW _ _ id hO2
  have hF2_1 := (hT2 1 (by decide)).trans hF_w1
  have hF2_2 := (hT2 2 (by decide)).trans hF_h1
  have hF2_3 := (hT2 3 (by decide)).trans hF_op
  have hF2_0 := (hT2 0 (by decide)).trans hF_wb
  have he := he.trans (hx2.sub (jsub_of rfl))
  have hkp := hkp.trans (jkc.put hO_a0 hO2 hT2 hB2 (by decide))
  have hfp := hfp.trans (jfp.one hB2 List.mem_cons_self)
  have ha0 := ha0.mono hx2.1
  have hb_wb := hb_wb.mono hx2.1
  have ha_WB := hx2.2 _ _ ha_WB (jnot_of rfl)
  refine J_aload_n dX2_countWays_5 rfl ?_
  refine Jz_iconst 0 dX2_countWays_6 (by decide) (fun y6 he6 => ?_)
  refine Jz_putI hO2 hW id rfl jf_X2_29 jt_X2_5 he6 dX2_countWays_7 (by omega) (by omega) (fun _ _ => ⟨rfl, rfl⟩) (fun V7 fs7 hW hx7 hO7 hS7 hT7 hB7 => ?_)
  have hK7 : jokO _ (jFs 0) fs7 := hW _ _ id hO7
  have hF7_4 := (hT7 4 (by decide)).trans hS2
  have hF7_1 := (hT7 1 (by decide)).trans hF2_1
  have hF7_2 := (hT7 2 (by decide)).trans hF2_2
  have hF7_3 := (hT7 3 (by decide)).trans hF2_3
  have hF7_0 := (hT7 0 (by decide)).trans hF2_0
  have he := he.trans (hx7.sub (jsub_of rfl))
  have hkp := hkp.trans (jkc.put hO2 hO7 hT7 hB7 (by decide))
  have hfp := hfp.trans (jfp.one hB7 List.mem_cons_self)
  have ha0 := ha0.mono hx7.1
  have hb_wb := hb_wb.mono hx7.1
  have ha_WB := hx7.2 _ _ ha_WB (jnot_of rfl)
  refine J_aload_n dX2_countWays_10 rfl ?_
  refine Jz_iconst 0 dX2_countWays_11 (by decide) (fun y11 he11 => ?_)
  refine Jz_putI hO7 hW id rfl jf_X2_32 jt_X2_6 he11 dX2_countWays_12 (by omega) (by omega) (fun _ _ => ⟨rfl, rfl⟩) (fun V12 fs12 hW hx12 hO12 hS12 hT12 hB12 => ?_)
  have hK12 : jokO _ (jFs 0) fs12 := hW _ _ id hO12
  have hF12_5 := (hT12 5 (by decide)).trans hS7
  have hF12_4 := (hT12 4 (by decide)).trans hF7_4
  have hF12_1 := (hT12 1 (by decide)).trans hF7_1
  have hF12_2 := (hT12 2 (by decide)).trans hF7_2
  have hF12_3 := (hT12 3 (by decide)).trans hF7_3
  have hF12_0 := (hT12 0 (by decide)).trans hF7_0
  have he := he.trans (hx12.sub (jsub_of rfl))
  have hkp := hkp.trans (jkc.put hO7 hO12 hT12 hB12 (by decide))
  have hfp := hfp.trans (jfp.one hB12 List.mem_cons_self)
  have ha0 := ha0.mono hx12.1
  have hb_wb := hb_wb.mono hx12.1
  have ha_WB := hx12.2 _ _ ha_WB (jnot_of rfl)
  refine J_aload_n dX2_countWays_15 rfl ?_
  refine Jz_iconst 0 dX2_countWays_16 (by decide) (fun y16 he16 => ?_)
  refine Jz_putI hO12 hW id rfl jf_X2_39 jt_X2_8 he16 dX2_countWays_17 (by omega) (by omega) (fun _ h => ⟨nar_b (by omega) (by omega), fit_b (by omega) (by omega)⟩) (fun V17 fs17 hW hx17 hO17 hS17 hT17 hB17 => ?_)
  have hK17 : jokO _ (jFs 0) fs17 := hW _ _ id hO17
  have hF17_6 := (hT17 6 (by decide)).trans hS12
  have hF17_5 := (hT17 5 (by decide)).trans hF12_5
  have hF17_4 := (hT17 4 (by decide)).trans hF12_4
  have hF17_1 := (hT17 1 (by decide)).trans hF12_1
  have hF17_2 := (hT17 2 (by decide)).trans hF12_2
  have hF17_3 := (hT17 3 (by decide)).trans hF12_3
  have hF17_0 := (hT17 0 (by decide)).trans hF12_0
  have he := he.trans (hx17.sub (jsub_of rfl))
  have hkp := hkp.trans (jkc.put hO12 hO17 hT17 hB17 (by decide))
  have hfp := hfp.trans (jfp.one hB17 List.mem_cons_self)
  have ha0 := ha0.mono hx17.1
  have hb_wb := hb_wb.mono hx17.1
  have ha_WB := hx17.2 _ _ ha_WB (jnot_of rfl)
  refine Jz_iconst 0 dX2_countWays_20 (by decide) (fun y20 he20 => ?_)
  refine J_istore_n dX2_countWays_21 rfl (by decide) ?_
  have L22 : ∀ (N : Nat) (V : jH) (i1n22 : Int32) (F12n22 : Nat → Int32), WT V → jeff [.inr 0, .inl 12] V0 V → (jis V (.inr 0) a0) → (jis V (.inl 12) wb) → (jkc 0 [1, 2, 3] V0 V) → (jfp [a0, wb] V0 V) → (V a0 = some (.inr (0, fs17))) → (jokO V (jFs 0) fs17) → (V wb = some (.inl (12, 36, .inl F12n22))) → (0 ≤ i1n22.toInt ∧ i1n22.toInt ≤ 36) → (∀ j : Nat, (j : Int) < i1n22.toInt → (F12n22 j).toInt = 0) → (300 - i1n22.toInt).toNat < N → J tS mX2_countWays d 22 [some (.ref a0), some (.int i1n22)] [] V 0 0 (fun r V => (jPost [.inr 0, .inl 12] V0 rV) r V ∧ (∃ (WB2 : Nat → Int32) (rc2 aw2 fw2 sp2 : Int32), V wb = some (.inl (12, 36, .inl WB2)) ∧ jfI V a0 0 4 rc2 ∧ jfI V a0 0 5 aw2 ∧ jfI V a0 0 6 fw2 ∧ jfI V a0 0 8 sp2 ∧ jwd (jbt op) (w1.toInt + 8 * h1.toInt).toNat NO sp2 rc2 aw2 fw2 WB2) ∧ jkc 0 [1, 2, 3] V0 V ∧ jfp [a0, wb] V0 V ∧ (∃ w12 : Int32, jfI V a0 0 1 w12 ∧ (w12.toInt = w1.toInt)) ∧ (∃ h12 : Int32, jfI V a0 0 2 h12 ∧ (h12.toInt = h1.toInt))) := by
    intro N
    induction N with
    | zero => intro V i1n22 F12n22 hW he ha0 hb_wb hkp hfp hO17 hK17 hAF12n22 hi1 hz hm; exact absurd hm (Nat.not_lt_zero _)
    | succ N ih =>
      intro V i1n22 F12n22 hW he ha0 hb_wb hkp hfp hO17 hK17 hAF12n22 hi1 hz hm
      have ih22 := ih
      have hri1 := j_rng i1n22
      obtain ⟨hNF12n22, hvF12n22⟩ := WT_rngI (r := ((-2147483648), 2147483647)) hW id rfl hAF12n22
      clear hNF12n22
      refine J_iload_n dX2_countWays_22 rfl ?_
      refine J_aload_n dX2_countWays_23 rfl ?_
      refine J_get jf_X2_11 dX2_countWays_24 hO17 hF17_0 ?_
      refine J_alen dX2_countWays_27 hAF12n22 rfl rfl ?_
      have he27 : jEq (Int32.ofNat 36).toInt 36 := nI_toInt (by decide)
      generalize Int32.ofNat 36 = y27 at he27 ⊢
      refine Jz_icmp_ge (tgt := 44) jEq.rf he27 dX2_countWays_28 (by decide) (fun c28 => ?_) (fun c28 => ?_)
      · refine J_aload_n dX2_countWays_44 rfl ?_
        refine Jz_iconst 0 dX2_countWays_45 (by decide) (fun y45 he45 => ?_)
        refine Jz_bipush 9 dX2_countWays_46 (by decide) (fun y46 he46 => ?_)
        refine J_aload_n dX2_countWays_48 rfl ?_
        refine J_get jf_X2_22 dX2_countWays_49 hO17 hF17_3 ?_
        refine Jz_iconst 0 dX2_countWays_52 (by decide) (fun y52 he52 => ?_)
        refine Jz_iconst 0 dX2_countWays_53 (by decide) (fun y53 he53 => ?_)
        refine J_callS2 moX2_bitOf jw_ml_X2_46 jw_st_X2_bitOf dX2_countWays_54 (w_X2_bitOf_z (d - 1) _ y52 y53 (by omega)   (by (try simp only [he52.eq, true_and, and_true]) <;> omega) (by (try simp only [he52.eq, true_and, and_true]) <;> omega) (by (try simp only [he53.eq, true_and, and_true]) <;> omega) (by (try simp only [he53.eq, true_and, and_true]) <;> omega)) (by omega) (Nat.zero_le _) (Nat.zero_le _) (Nat.le_of_ble_eq_true rfl) (fun r54 V54 h54 => ?_)
        obtain ⟨⟨y54, rfl, hP54_0⟩, hE54⟩ := h54
        try simp only [he52.eq, he53.eq] at hP54_0
        have hE54 := hE54.symm
        subst hE54
        refine J_ldc2 jw_k_X2_57 dX2_countWays_57 ?_
        refine J_lxor dX2_countWays_60 ?_
        refine J_land dX2_countWays_61 ?_
        refine J_callS4 moX2_extend jw_ml_X2_59 jw_st_X2_extend dX2_countWays_62 (w_X2_extend_z 38 (d - 1) _ a0 y45 y46 (op &&& (y54 ^^^ (-1 : Int64))) w1 h1 y1 y6 y11 y16 wb (jbt op) NO [9] jW0 F12n22 (by omega) hW ha0 (by (try simp only [he45.eq, true_and, and_true]) <;> omega) (by (try simp only [he45.eq, true_and, and_true]) <;> omega) ⟨_, hO17, hF17_1⟩ ⟨_, hO17, hF17_2⟩ ⟨_, hO17, hF17_4⟩ ⟨_, hO17, hF17_5⟩ ⟨_, hO17, hF17_6⟩ ⟨_, hO17, hS17⟩ ⟨_, hO17, hF17_0⟩ hAF12n22 (by omega) (by omega) (by omega) (by omega) (jwr.zero he1.eq he6.eq he11.eq (fun k hk => hz k (by omega))) (by decide) (Or.inr ⟨he16.eq, by decide⟩) (by rw [he45.eq]; rfl) (by rw [he46.eq]; rfl) (by rw [he46.eq]; omega) (by rw [he46.eq]; omega) (jrest (l := []) hp4 (fun n => by rw [decide_eq_false (show ¬ n ∈ ([] : List Nat) from List.not_mem_nil)]; exact (Bool.and_true _).symm) (fun n => (hP54_0 n).trans (decide_eq_decide.mpr (by omega)))) hp4 (jli.one hp5 hp6) hp7 (by (try simp only [he45.eq, he46.eq, he1.eq, he6.eq, he11.eq, he16.eq, true_and, and_true]) <;> omega)) (by omega) (Nat.zero_le _) (Nat.zero_le _) (Nat.le_of_ble_eq_true rfl) (fun r62 V62 h62 => ?_)
        obtain ⟨h62, hX62_0, hX62_1, hX62_2, ⟨fv62_0, hfv62_0, hfp62_0⟩, ⟨fv62_1, hfv62_1, hfp62_1⟩⟩ := h62
        obtain ⟨hW, hx62, hr62⟩ := h62
        have he := he.trans (hx62.sub (jsub_of rfl))
        have hkp := hkp.trans hX62_1
        have hfp := hfp.trans (hX62_2.sub (fun b hb => by simp only [List.mem_cons, List.not_mem_nil, or_false] at hb ⊢; first | (rcases hb with h9 | h9 <;> simp only [h9, true_or, or_true]) | omega))
        have ha0 := ha0.mono hx62.1
        have hb_wb := hb_wb.mono hx62.1
        obtain ⟨fs62a0, hOfs62a0, hRfs62a0⟩ := hx62.1.keep hO17
        have hKfs62a0 : jokO _ (jFs 0) fs62a0 := hW _ _ id hOfs62a0
        have hFfs62a0_0 := hRfs62a0 _ _ hF17_0
        cases hr62
        have hFv62_0 := hfv62_0.get hOfs62a0
        try simp only [he45.eq, he46.eq, he1.eq, he6.eq, he11.eq, he16.eq] at hfp62_0
        have hsb62_0 : w1 = fv62_0 := (jI_inj.mp hfp62_0).symm
        subst hsb62_0
        have hFv62_1 := hfv62_1.get hOfs62a0
        try simp only [he45.eq, he46.eq, he1.eq, he6.eq, he11.eq, he16.eq] at hfp62_1
        have hsb62_1 : h1 = fv62_1 := (jI_inj.mp hfp62_1).symm
        subst hsb62_1
        obtain ⟨WB62, rc62, aw62, fw62, sp62, b3, hWa62, hrf62, haf62, hff62, hsf62, he3, hj3, hb3, hs3⟩ := hX62_0
        rw [he45.eq, show (36 - (0 : Int)).toNat = 36 by decide] at he3
        have hFv624 := hrf62.get hOfs62a0
        have hFv625 := haf62.get hOfs62a0
        have hFv626 := hff62.get hOfs62a0
        have hFv628 := hsf62.get hOfs62a0
        obtain ⟨hN_WB62, hv_WB62⟩ := WT_rngI (r := ((-2147483648), 2147483647)) hW id rfl hWa62
        clear hN_WB62
        exact J_ret (r := none) dX2_countWays_65 ⟨rfl, rfl⟩ (⟨⟨hW, he, rfl⟩, ⟨WB62, rc62, aw62, fw62, sp62, hWa62, ⟨_, hOfs62a0, hFv624⟩, ⟨_, hOfs62a0, hFv625⟩, ⟨_, hOfs62a0, hFv626⟩, ⟨_, hOfs62a0, hFv628⟩, b3, he3, hj3, hb3, hs3⟩, hkp, hfp, ⟨_, ⟨_, hOfs62a0, hFv62_0⟩, (by omega)⟩, ⟨_, ⟨_, hOfs62a0, hFv62_1⟩, (by omega)⟩⟩)
      · refine J_aload_n dX2_countWays_31 rfl ?_
        refine J_get jf_X2_11 dX2_countWays_32 hO17 hF17_0 ?_
        refine J_iload_n dX2_countWays_35 rfl ?_
        refine Jz_iconst 0 dX2_countWays_36 (by decide) (fun y36 he36 => ?_)
        refine Jz_iastB (r := ((-2147483648), 2147483647)) jEq.rf he36 hW id dX2_countWays_37 hAF12n22 rfl rfl (by omega) (by omega) (by omega) (by omega) (fun V37 G37 hW hx37 hA37 hp37 ho37 hB37 => ?_)
        obtain ⟨hN37, hv37⟩ := WT_rngI (r := ((-2147483648), 2147483647)) hW id rfl hA37
        clear hN37
        have he := he.trans (hx37.sub (jsub_of rfl))
        have hkp := hkp.trans (jkc.of hx37 (jnot_of rfl))
        have hfp := hfp.trans (jfp.one hB37 (List.mem_cons_of_mem _ List.mem_cons_self))
        have ha0 := ha0.mono hx37.1
        have hb_wb := hb_wb.mono hx37.1
        have hO17 := hx37.2 _ _ hO17 (jnot_of rfl)
        have hK17 := hK17.mono hx37.1
        refine Jz_iinc 1 dX2_countWays_38 rfl rfl (by decide) jEq.rf (by decide) (by omega) (by omega) (fun y38 he38 => ?_)
        refine J_goto (tgt := 22) dX2_countWays_41 (by decide) ?_
        refine J.mask [true, true] ?_
        exact ih22 _ y38 G37 hW he ha0 hb_wb hkp hfp hO17 hK17 hA37 (by (try simp only [he38.eq, true_and, and_true]) <;> omega) (fun j hj => by rw [he38.eq] at hj; exact (Nat.decEq j i1n22.toInt.toNat).byCases (fun hq => by rw [hq, hp37, he36.eq]) (fun hq => by rw [ho37 j hq]; exact hz j (by omega))) (by (try simp only [he38.eq, true_and, and_true]) <;> omega)
  refine J.mask [true, true] ?_
  exact L22 _ _ y20 WB hW he ha0 hb_wb hkp hfp hO17 hK17 ha_WB (by (try simp only [he20.eq, true_and, and_true]) <;> omega) (fun j hj => by rw [he20.eq] at hj; omega) (Nat.lt_succ_self _)
