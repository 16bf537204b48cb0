set_option maxRecDepth 100000 in
set_option maxHeartbeats 4000000 in
theorem lawc_17 {tS : jTS} {b L : Nat} {xs : Nat → Int32} (hs9 : tS.2 = some (b, L, xs)) (V : jH) (ax am : Nat) (i : Int32) (G N : Nat) {Q : Option Value → jH → Prop} (hW : WT V) (hx : jis V (.inr 4) ax) (hm : jis V (.inr 5) am) (hg : jphi V ax G) (hr : jRL V ax am) (hc : jTX V ax am) (hin1 : vp_in (i + 1) L) (hin2 : vp_in (i + 2) L) (hin3 : vp_in (i + 3) L) (kk : ∀ (V2 : jH) (G2 : Nat), WT V2 → jis V2 (.inr 4) ax → jis V2 (.inr 5) am → jphi V2 ax G2 → jRL V2 ax am → jTX V2 ax am → G2 ≤ G → J tS mL_law 1000 908 [some (.ref b), some (.ref ax), some (.ref am), some (.int i)] [] V2 (5 * N + 8 * G2) (491 * N + 20013 * G2) Q) : J tS mL_law 1000 705 [some (.ref b), some (.ref ax), some (.ref am), some (.int i)] [] V (5 * (N + 1) + 8 * G) (491 * (N + 1) + 20013 * G) Q := by
  refine J_aload_n dL_law_705 rfl ?_
  refine J_aload_n dL_law_706 rfl ?_
  refine J_iload_n dL_law_707 rfl ?_
  refine J_iconst (v := 1) dL_law_708 (by decide) ?_
  refine J_iadd dL_law_709 ?_
  refine J_sld hs9 dL_law_710 hin1 ?_
  refine J_aload_n dL_law_711 rfl ?_
  refine J_iload_n dL_law_712 rfl ?_
  refine J_iconst (v := 2) dL_law_713 (by decide) ?_
  refine J_iadd dL_law_714 ?_
  refine J_sld hs9 dL_law_715 hin2 ?_
  obtain ⟨hrl, hp, hff⟩ := id hr
  obtain ⟨pl, rh, pw, ph, po, HH, r1, r2, c1, c2, c3, m1, m2, hH, hbd, hbt⟩ := jpl.parts hp
  by_cases cB : 2 ≤ (xs (i + 1).toNatClampNeg).toInt ∧ (xs (i + 1).toNatClampNeg).toInt ≤ 6 ∧ 2 ≤ (xs (i + 2).toNatClampNeg).toInt ∧ (xs (i + 2).toNatClampNeg).toInt ≤ 6
  · skip
    refine Jw_callV2 (q9 := (RX6, TX6, 7)) moX6_board jw_ml_L_85 jw_im_X6_board jw_se_X6_board hx rfl rfl dL_law_716 (w_X6_board_yes 999 _ ax (xs (i + 1).toNatClampNeg) (xs (i + 2).toNatClampNeg) pl (by decide) hW hx r1 cB) (by decide) (Nat.zero_le _) (Nat.zero_le _) (Nat.le_of_ble_eq_true rfl) (fun r V4 h => ?_)
    obtain ⟨⟨hW, he, y1, rfl, -, -, hy1⟩, w2, h2, op2, k1, k2, k3, e1, e2, hb2⟩ := h
    have hx := hx.mono he.1
    have hm := hm.mono he.1
    have hg := hg.keep he (jnot_of rfl) (jnot_of rfl)
    have hc := hc.keep he (jdis_of rfl)
    refine J.less (kc' := 5 * N + 8 * G) (ks' := 491 * N + 20013 * G) (by omega) (by omega) ?_
    obtain ⟨G2, hGe⟩ : ∃ G2 : Nat, G2 = G := ⟨_, rfl⟩
    have hG2 : G2 ≤ G := Nat.le_of_eq hGe
    rw [← hGe] at hg ⊢
    refine J_pop dL_law_719 rfl ?_
    refine J_aload_n dL_law_720 rfl ?_
    refine J_aload_n dL_law_721 rfl ?_
    refine J_iload_n dL_law_722 rfl ?_
    refine J_iconst (v := 1) dL_law_723 (by decide) ?_
    refine J_iadd dL_law_724 ?_
    refine J_sld hs9 dL_law_725 hin1 ?_
    refine J_aload_n dL_law_726 rfl ?_
    refine J_iload_n dL_law_727 rfl ?_
    refine J_iconst (v := 2) dL_law_728 (by decide) ?_
    refine J_iadd dL_law_729 ?_
    refine J_sld hs9 dL_law_730 hin2 ?_
    refine Jw_callV2 (q9 := (RX7, TX7, 34)) moX7_board jw_ml_L_88 jw_im_X7_board jw_se_X7_board hm rfl rfl dL_law_731 (w_X7_board_yes 999 _ am (xs (i + 1).toNatClampNeg) (xs (i + 2).toNatClampNeg) rh (by decide) hW hm (r2.mono he.1) cB) (by decide) (Nat.zero_le _) (Nat.zero_le _) (Nat.le_of_ble_eq_true rfl) (fun r V3 h => ?_)
    obtain ⟨⟨hW, he5, y2, rfl, -, -, hy2⟩, ⟨GG, hGG, hGz⟩, hkp, ⟨w5, n1, f1⟩, ⟨h5, n2, f2⟩⟩ := h
    have hx := hx.mono he5.1
    have hm := hm.mono he5.1
    have hg := hg.keep he5 (jnot_of rfl) (jnot_of rfl)
    have hc := hc.keep he5 (jdis_of rfl)
    have hr : jRL _ ax am := ⟨(hrl.own he (jdis_of rfl) (jdis_of rfl)).ref he5 hkp (by decide) (jdis_of rfl) (jdis_of rfl), jpl.laid cB ((r1.mono he.1).mono he5.1) ((r2.mono he.1).mono he5.1) (k1.keep he5 (jnot_of rfl)) (k2.keep he5 (jnot_of rfl)) (k3.keep he5 (jnot_of rfl)) e1 e2 hb2 n1 n2 f1 f2 hGG hGz, (hff.mono he.1).mono he5.1⟩
    refine J_pop dL_law_734 rfl ?_
    refine J_goto (tgt := 908) dL_law_735 (by decide) ?_
    exact J.less (kc' := 5 * N + 8 * G2) (ks' := 491 * N + 20013 * G2) (by omega) (by omega) (kk _ G2 hW hx hm hg hr hc hG2)
  · skip
    refine Jw_callV2 (q9 := (RX6, TX6, 7)) moX6_board jw_ml_L_85 jw_im_X6_board jw_se_X6_board hx rfl rfl dL_law_716 (w_X6_board_no 999 _ ax (xs (i + 1).toNatClampNeg) (xs (i + 2).toNatClampNeg) (by decide) hW hx cB) (by decide) (Nat.zero_le _) (Nat.zero_le _) (Nat.le_of_ble_eq_true rfl) (fun r V4 h => ?_)
    obtain ⟨⟨y1, rfl, -, -, hy1⟩, hE⟩ := h
    have hE := hE.symm
    subst hE
    refine J.less (kc' := 5 * N + 8 * G) (ks' := 491 * N + 20013 * G) (by omega) (by omega) ?_
    obtain ⟨G2, hGe⟩ : ∃ G2 : Nat, G2 = G := ⟨_, rfl⟩
    have hG2 : G2 ≤ G := Nat.le_of_eq hGe
    rw [← hGe] at hg ⊢
    refine J_pop dL_law_719 rfl ?_
    refine J_aload_n dL_law_720 rfl ?_
    refine J_aload_n dL_law_721 rfl ?_
    refine J_iload_n dL_law_722 rfl ?_
    refine J_iconst (v := 1) dL_law_723 (by decide) ?_
    refine J_iadd dL_law_724 ?_
    refine J_sld hs9 dL_law_725 hin1 ?_
    refine J_aload_n dL_law_726 rfl ?_
    refine J_iload_n dL_law_727 rfl ?_
    refine J_iconst (v := 2) dL_law_728 (by decide) ?_
    refine J_iadd dL_law_729 ?_
    refine J_sld hs9 dL_law_730 hin2 ?_
    refine Jw_callV2 (q9 := (RX7, TX7, 34)) moX7_board jw_ml_L_88 jw_im_X7_board jw_se_X7_board hm rfl rfl dL_law_731 (w_X7_board_no 999 _ am (xs (i + 1).toNatClampNeg) (xs (i + 2).toNatClampNeg) (by decide) hW hm cB) (by decide) (Nat.zero_le _) (Nat.zero_le _) (Nat.le_of_ble_eq_true rfl) (fun r V3 h => ?_)
    obtain ⟨⟨y2, rfl, -, -, hy2⟩, hE⟩ := h
    have hE := hE.symm
    subst hE
    refine J_pop dL_law_734 rfl ?_
    refine J_goto (tgt := 908) dL_law_735 (by decide) ?_
    exact J.less (kc' := 5 * N + 8 * G2) (ks' := 491 * N + 20013 * G2) (by omega) (by omega) (kk _ G2 hW hx hm hg hr hc hG2)
set_option maxRecDepth 100000 in
set_option maxHeartbeats 4000000 in
theorem lawc_18 {tS : jTS} {b L : Nat} {xs : Nat → Int32} (hs9 : tS.2 = some (b, L, xs)) (V : jH) (ax am : Nat) (i : Int32) (G N : Nat) {Q : Option Value → jH → Prop} (hW : WT V) (hx : jis V (.inr 4) ax) (hm : jis V (.inr 5) am) (hg : jphi V ax G) (hr : jRL V ax am) (hc : jTX V ax am) (hin1 : vp_in (i + 1) L) (hin2 : vp_in (i + 2) L) (hin3 : vp_in (i + 3) L) (kk : ∀ (V2 : jH) (G2 : Nat), WT V2 → jis V2 (.inr 4) ax → jis V2 (.inr 5) am → jphi V2 ax G2 → jRL V2 ax am → jTX V2 ax am → G2 ≤ G → J tS mL_law 1000 908 [some (.ref b), some (.ref ax), some (.ref am), some (.int i)] [] V2 (5 * N + 8 * G2) (491 * N + 20013 * G2) Q) : J tS mL_law 1000 738 [some (.ref b), some (.ref ax), some (.ref am), some (.int i)] [] V (5 * (N + 1) + 8 * G) (491 * (N + 1) + 20013 * G) Q := by
  refine J_aload_n dL_law_738 rfl ?_
  refine J_aload_n dL_law_739 rfl ?_
  refine J_iload_n dL_law_740 rfl ?_
  refine J_iconst (v := 1) dL_law_741 (by decide) ?_
  refine J_iadd dL_law_742 ?_
  refine J_sld hs9 dL_law_743 hin1 ?_
  refine J_aload_n dL_law_744 rfl ?_
  refine J_iload_n dL_law_745 rfl ?_
  refine J_iconst (v := 2) dL_law_746 (by decide) ?_
  refine J_iadd dL_law_747 ?_
  refine J_sld hs9 dL_law_748 hin2 ?_
  refine J_aload_n dL_law_749 rfl ?_
  refine J_iload_n dL_law_750 rfl ?_
  refine J_iconst (v := 3) dL_law_751 (by decide) ?_
  refine J_iadd dL_law_752 ?_
  refine J_sld hs9 dL_law_753 hin3 ?_
  obtain ⟨w, hw0, hw1, hwz, hwo⟩ := jbw (xs (i + 3).toNatClampNeg)
  have Kb754 : J tS mL_law 1000 762 [some (.ref b), some (.ref ax), some (.ref am), some (.int i)] [.int w, .int (xs (i + 2).toNatClampNeg), .int (xs (i + 1).toNatClampNeg), .ref ax] V (5 * (N + 1) + 8 * G) (491 * (N + 1) + 20013 * G) Q := by
    obtain ⟨hrl, hp, hff⟩ := id hr
    obtain ⟨pl, rh, pw, ph, po, HH, r1, r2, c1, c2, c3, m1, m2, hH, hbd, hbt⟩ := jpl.parts hp
    by_cases cI : 0 ≤ (xs (i + 1).toNatClampNeg).toInt ∧ (xs (i + 1).toNatClampNeg).toInt < pw.toInt ∧ 0 ≤ (xs (i + 2).toNatClampNeg).toInt ∧ (xs (i + 2).toNatClampNeg).toInt < ph.toInt
    rotate_left
    · skip
      refine Jw_callV3 (q9 := (RX6, TX6, 7)) moX6_hole jw_ml_L_89 jw_im_X6_hole jw_se_X6_hole hx rfl rfl dL_law_762 (w_X6_hole_out 999 _ ax (xs (i + 1).toNatClampNeg) (xs (i + 2).toNatClampNeg) w pl pw ph po (by decide) hW hx hw0 hw1 r1 c1 c2 c3 hbd.1 hbd.2.1 hbd.2.2.1 hbd.2.2.2 cI) (by decide) (Nat.zero_le _) (Nat.zero_le _) (Nat.le_of_ble_eq_true rfl) (fun r V4 h => ?_)
      obtain ⟨⟨y1, rfl, -, -, hy1⟩, hE⟩ := h
      have hE := hE.symm
      subst hE
      refine J.less (kc' := 5 * N + 8 * G) (ks' := 491 * N + 20013 * G) (by omega) (by omega) ?_
      obtain ⟨G2, hGe⟩ : ∃ G2 : Nat, G2 = G := ⟨_, rfl⟩
      have hG2 : G2 ≤ G := Nat.le_of_eq hGe
      rw [← hGe] at hg ⊢
      refine J_pop dL_law_765 rfl ?_
      refine J_aload_n dL_law_766 rfl ?_
      refine J_aload_n dL_law_767 rfl ?_
      refine J_iload_n dL_law_768 rfl ?_
      refine J_iconst (v := 1) dL_law_769 (by decide) ?_
      refine J_iadd dL_law_770 ?_
      refine J_sld hs9 dL_law_771 hin1 ?_
      refine J_aload_n dL_law_772 rfl ?_
      refine J_iload_n dL_law_773 rfl ?_
      refine J_iconst (v := 2) dL_law_774 (by decide) ?_
      refine J_iadd dL_law_775 ?_
      refine J_sld hs9 dL_law_776 hin2 ?_
      refine J_aload_n dL_law_777 rfl ?_
      refine J_iload_n dL_law_778 rfl ?_
      refine J_iconst (v := 3) dL_law_779 (by decide) ?_
      refine J_iadd dL_law_780 ?_
      refine J_sld hs9 dL_law_781 hin3 ?_
      have Kb782 : J tS mL_law 1000 790 [some (.ref b), some (.ref ax), some (.ref am), some (.int i)] [.int w, .int (xs (i + 2).toNatClampNeg), .int (xs (i + 1).toNatClampNeg), .ref am] V (5 * N + 8 * G2) (491 * N + 20013 * G2) Q := by
        refine Jw_callV3 (q9 := (RX7, TX7, 34)) moX7_hole jw_ml_L_93 jw_im_X7_hole jw_se_X7_hole hm rfl rfl dL_law_790 (w_X7_hole_out 999 _ am (xs (i + 1).toNatClampNeg) (xs (i + 2).toNatClampNeg) w pw ph rh HH (by decide) hW hm hw0 hw1 m1 m2 r2 hH hbd.1 hbd.2.2.1 cI) (by decide) (Nat.zero_le _) (Nat.zero_le _) (Nat.le_of_ble_eq_true rfl) (fun r V3 h => ?_)
        obtain ⟨⟨y2, rfl, -, -, hy2⟩, hE⟩ := h
        have hE := hE.symm
        subst hE
        refine J_pop dL_law_793 rfl ?_
        refine J_goto (tgt := 908) dL_law_794 (by decide) ?_
        exact J.less (kc' := 5 * N + 8 * G2) (ks' := 491 * N + 20013 * G2) (by omega) (by omega) (kk _ G2 hW hx hm hg hr hc hG2)
      refine J_if_eq (tgt := 789) dL_law_782 (by decide) (fun c => ?_) (fun c => ?_)
      · skip
        refine J_iconst (v := 0) dL_law_789 (by decide) ?_
        rw [hwz c] at Kb782
        exact Kb782
      · skip
        refine J_iconst (v := 1) dL_law_785 (by decide) ?_
        refine J_goto (tgt := 790) dL_law_786 (by decide) ?_
        rw [hwo c] at Kb782
        exact Kb782
    have hcell := jpl_bit hbt hbd.2.1 cI.1 cI.2.1 cI.2.2.1 cI.2.2.2
    have hHr := (WT_rngI (r := (0, 1)) hW id rfl hH).2 _ (jcell_lt cI.1 cI.2.1 cI.2.2.1 cI.2.2.2 hbd.2.1 hbd.2.2.2)
    dsimp only at hHr
    by_cases cS : (HH ((xs (i + 1).toNatClampNeg).toInt + pw.toInt * (xs (i + 2).toNatClampNeg).toInt).toNat).toInt = w.toInt ∨ ((xs (i + 1).toNatClampNeg).toInt = 0 ∧ (xs (i + 2).toNatClampNeg).toInt = 0 ∨ (xs (i + 1).toNatClampNeg).toInt = pw.toInt - 1 ∧ (xs (i + 2).toNatClampNeg).toInt = ph.toInt - 1)
    · skip
      refine Jw_callV3 (q9 := (RX6, TX6, 7)) moX6_hole jw_ml_L_89 jw_im_X6_hole jw_se_X6_hole hx rfl rfl dL_law_762 (w_X6_hole_same 999 _ ax (xs (i + 1).toNatClampNeg) (xs (i + 2).toNatClampNeg) w pl pw ph po (by decide) hW hx hw0 hw1 r1 c1 c2 c3 hbd.1 hbd.2.1 hbd.2.2.1 hbd.2.2.2 cI (cS.imp (fun q => jbit_eq hcell q) id)) (by decide) (Nat.zero_le _) (Nat.zero_le _) (Nat.le_of_ble_eq_true rfl) (fun r V4 h => ?_)
      obtain ⟨⟨y1, rfl, -, -, hy1⟩, hE⟩ := h
      have hE := hE.symm
      subst hE
      refine J.less (kc' := 5 * N + 8 * G) (ks' := 491 * N + 20013 * G) (by omega) (by omega) ?_
      obtain ⟨G2, hGe⟩ : ∃ G2 : Nat, G2 = G := ⟨_, rfl⟩
      have hG2 : G2 ≤ G := Nat.le_of_eq hGe
      rw [← hGe] at hg ⊢
      refine J_pop dL_law_765 rfl ?_
      refine J_aload_n dL_law_766 rfl ?_
      refine J_aload_n dL_law_767 rfl ?_
      refine J_iload_n dL_law_768 rfl ?_
      refine J_iconst (v := 1) dL_law_769 (by decide) ?_
      refine J_iadd dL_law_770 ?_
      refine J_sld hs9 dL_law_771 hin1 ?_
      refine J_aload_n dL_law_772 rfl ?_
      refine J_iload_n dL_law_773 rfl ?_
      refine J_iconst (v := 2) dL_law_774 (by decide) ?_
      refine J_iadd dL_law_775 ?_
      refine J_sld hs9 dL_law_776 hin2 ?_
      refine J_aload_n dL_law_777 rfl ?_
      refine J_iload_n dL_law_778 rfl ?_
      refine J_iconst (v := 3) dL_law_779 (by decide) ?_
      refine J_iadd dL_law_780 ?_
      refine J_sld hs9 dL_law_781 hin3 ?_
      have Kb782 : J tS mL_law 1000 790 [some (.ref b), some (.ref ax), some (.ref am), some (.int i)] [.int w, .int (xs (i + 2).toNatClampNeg), .int (xs (i + 1).toNatClampNeg), .ref am] V (5 * N + 8 * G2) (491 * N + 20013 * G2) Q := by
        refine Jw_callV3 (q9 := (RX7, TX7, 34)) moX7_hole jw_ml_L_93 jw_im_X7_hole jw_se_X7_hole hm rfl rfl dL_law_790 (w_X7_hole_same 999 _ am (xs (i + 1).toNatClampNeg) (xs (i + 2).toNatClampNeg) w pw ph rh HH (by decide) hW hm hw0 hw1 m1 m2 r2 hH hbd.1 hbd.2.2.1 cI cS) (by decide) (Nat.zero_le _) (Nat.zero_le _) (Nat.le_of_ble_eq_true rfl) (fun r V3 h => ?_)
        obtain ⟨⟨y2, rfl, -, -, hy2⟩, hE⟩ := h
        have hE := hE.symm
        subst hE
        refine J_pop dL_law_793 rfl ?_
        refine J_goto (tgt := 908) dL_law_794 (by decide) ?_
        exact J.less (kc' := 5 * N + 8 * G2) (ks' := 491 * N + 20013 * G2) (by omega) (by omega) (kk _ G2 hW hx hm hg hr hc hG2)
      refine J_if_eq (tgt := 789) dL_law_782 (by decide) (fun c => ?_) (fun c => ?_)
      · skip
        refine J_iconst (v := 0) dL_law_789 (by decide) ?_
        rw [hwz c] at Kb782
        exact Kb782
      · skip
        refine J_iconst (v := 1) dL_law_785 (by decide) ?_
        refine J_goto (tgt := 790) dL_law_786 (by decide) ?_
        rw [hwo c] at Kb782
        exact Kb782
    have cS1 := fun q => cS (Or.inl q)
    have cS2 := fun q => cS (Or.inr q)
    have hdt := jbit_ne hcell hHr.1 hHr.2 hw0 hw1 cS1
    refine Jw_callV3 (q9 := (RX6, TX6, 7)) moX6_hole jw_ml_L_89 jw_im_X6_hole jw_se_X6_hole hx rfl rfl dL_law_762 (w_X6_hole_turn 999 _ ax (xs (i + 1).toNatClampNeg) (xs (i + 2).toNatClampNeg) w pl pw ph po (by decide) hW hx hw0 hw1 r1 c1 c2 c3 hbd.1 hbd.2.1 hbd.2.2.1 hbd.2.2.2 cI hdt cS2) (by decide) (Nat.zero_le _) (Nat.zero_le _) (Nat.le_of_ble_eq_true rfl) (fun r V4 h => ?_)
    obtain ⟨⟨hW, he, y1, rfl, -, -, hy1⟩, hk0, op2, k3, ht⟩ := h
    have hx := hx.mono he.1
    have hm := hm.mono he.1
    have hg := hg.keep he (jnot_of rfl) (jnot_of rfl)
    have hc := hc.keep he (jdis_of rfl)
    refine J.less (kc' := 5 * N + 8 * G) (ks' := 491 * N + 20013 * G) (by omega) (by omega) ?_
    obtain ⟨G2, hGe⟩ : ∃ G2 : Nat, G2 = G := ⟨_, rfl⟩
    have hG2 : G2 ≤ G := Nat.le_of_eq hGe
    rw [← hGe] at hg ⊢
    refine J_pop dL_law_765 rfl ?_
    refine J_aload_n dL_law_766 rfl ?_
    refine J_aload_n dL_law_767 rfl ?_
    refine J_iload_n dL_law_768 rfl ?_
    refine J_iconst (v := 1) dL_law_769 (by decide) ?_
    refine J_iadd dL_law_770 ?_
    refine J_sld hs9 dL_law_771 hin1 ?_
    refine J_aload_n dL_law_772 rfl ?_
    refine J_iload_n dL_law_773 rfl ?_
    refine J_iconst (v := 2) dL_law_774 (by decide) ?_
    refine J_iadd dL_law_775 ?_
    refine J_sld hs9 dL_law_776 hin2 ?_
    refine J_aload_n dL_law_777 rfl ?_
    refine J_iload_n dL_law_778 rfl ?_
    refine J_iconst (v := 3) dL_law_779 (by decide) ?_
    refine J_iadd dL_law_780 ?_
    refine J_sld hs9 dL_law_781 hin3 ?_
    have Kb782 : J tS mL_law 1000 790 [some (.ref b), some (.ref ax), some (.ref am), some (.int i)] [.int w, .int (xs (i + 2).toNatClampNeg), .int (xs (i + 1).toNatClampNeg), .ref am] V4 (5 * N + 8 * G2) (491 * N + 20013 * G2) Q := by
      refine Jw_callV3 (q9 := (RX7, TX7, 34)) moX7_hole jw_ml_L_93 jw_im_X7_hole jw_se_X7_hole hm rfl rfl dL_law_790 (w_X7_hole_turn 999 _ am (xs (i + 1).toNatClampNeg) (xs (i + 2).toNatClampNeg) w pw ph rh HH (by decide) hW hm hw0 hw1 (m1.keep he (jnot_of rfl)) (m2.keep he (jnot_of rfl)) (r2.mono he.1) (he.2 _ _ hH (jnot_of rfl)) hbd.1 hbd.2.2.1 cI cS1 cS2) (by decide) (Nat.zero_le _) (Nat.zero_le _) (Nat.le_of_ble_eq_true rfl) (fun r V3 h => ?_)
      obtain ⟨⟨hW, he5, y2, rfl, -, -, hy2⟩, ⟨GG, hGG, hGk, hGo⟩, hkp⟩ := h
      have hx := hx.mono he5.1
      have hm := hm.mono he5.1
      have hg := hg.keep he5 (jnot_of rfl) (jnot_of rfl)
      have hc := hc.keep he5 (jdis_of rfl)
      have hr : jRL _ ax am := ⟨(hrl.own he (jdis_of rfl) (jdis_of rfl)).ref he5 hkp (by decide) (jdis_of rfl) (jdis_of rfl), jpl.turned ((r1.mono he.1).mono he5.1) ((r2.mono he.1).mono he5.1) ((c1.kp hk0 (by decide)).keep he5 (jnot_of rfl)) ((c2.kp hk0 (by decide)).keep he5 (jnot_of rfl)) (k3.keep he5 (jnot_of rfl)) ((m1.keep he (jnot_of rfl)).kp hkp (by decide)) ((m2.keep he (jnot_of rfl)).kp hkp (by decide)) hGG hbd hbt cI hw0 hw1 hdt ht hGk hGo, (hff.mono he.1).mono he5.1⟩
      refine J_pop dL_law_793 rfl ?_
      refine J_goto (tgt := 908) dL_law_794 (by decide) ?_
      exact J.less (kc' := 5 * N + 8 * G2) (ks' := 491 * N + 20013 * G2) (by omega) (by omega) (kk _ G2 hW hx hm hg hr hc hG2)
    refine J_if_eq (tgt := 789) dL_law_782 (by decide) (fun c => ?_) (fun c => ?_)
    · skip
      refine J_iconst (v := 0) dL_law_789 (by decide) ?_
      rw [hwz c] at Kb782
      exact Kb782
    · skip
      refine J_iconst (v := 1) dL_law_785 (by decide) ?_
      refine J_goto (tgt := 790) dL_law_786 (by decide) ?_
      rw [hwo c] at Kb782
      exact Kb782
  refine J_if_eq (tgt := 761) dL_law_754 (by decide) (fun c => ?_) (fun c => ?_)
  · skip
    refine J_iconst (v := 0) dL_law_761 (by decide) ?_
    rw [hwz c] at Kb754
    exact Kb754
  · skip
    refine J_iconst (v := 1) dL_law_757 (by decide) ?_
    refine J_goto (tgt := 762) dL_law_758 (by decide) ?_
    rw [hwo c] at Kb754
    exact Kb754
set_option maxRecDepth 100000 in
set_option maxHeartbeats 4000000 in
theorem lawc_19 {tS : jTS} {b L : Nat} {xs : Nat → Int32} (hs9 : tS.2 = some (b, L, xs)) (V : jH) (ax am : Nat) (i : Int32) (G N : Nat) {Q : Option Value → jH → Prop} (hW : WT V) (hx : jis V (.inr 4) ax) (hm : jis V (.inr 5) am) (hg : jphi V ax G) (hr : jRL V ax am) (hc : jTX V ax am) (hin1 : vp_in (i + 1) L) (hin2 : vp_in (i + 2) L) (hin3 : vp_in (i + 3) L) (kk : ∀ (V2 : jH) (G2 : Nat), WT V2 → jis V2 (.inr 4) ax → jis V2 (.inr 5) am → jphi V2 ax G2 → jRL V2 ax am → jTX V2 ax am → G2 ≤ G → J tS mL_law 1000 908 [some (.ref b), some (.ref ax), some (.ref am), some (.int i)] [] V2 (5 * N + 8 * G2) (491 * N + 20013 * G2) Q) : J tS mL_law 1000 797 [some (.ref b), some (.ref ax), some (.ref am), some (.int i)] [] V (5 * (N + 1) + 8 * G) (491 * (N + 1) + 20013 * G) Q := by
  refine J_aload_n dL_law_797 rfl ?_
  refine J_aload_n dL_law_798 rfl ?_
  refine J_iload_n dL_law_799 rfl ?_
  refine J_iconst (v := 1) dL_law_800 (by decide) ?_
  refine J_iadd dL_law_801 ?_
  refine J_sld hs9 dL_law_802 hin1 ?_
  obtain ⟨w, hw0, hw1, hwz, hwo⟩ := jbw (xs (i + 1).toNatClampNeg)
  have Kb803 : J tS mL_law 1000 811 [some (.ref b), some (.ref ax), some (.ref am), some (.int i)] [.int w, .ref ax] V (5 * (N + 1) + 8 * G) (491 * (N + 1) + 20013 * G) Q := by
    have K : ∀ (V2 : jH) (G2 : Nat) (y1 : Int32), WT V2 → jis V2 (.inr 4) ax → jis V2 (.inr 5) am → jphi V2 ax G2 → jRL V2 ax am → jTX V2 ax am → G2 ≤ G → J tS mL_law 1000 814 [some (.ref b), some (.ref ax), some (.ref am), some (.int i)] [.int y1] V2 (5 * N + 8 * G2) (491 * N + 20013 * G2) Q := by
      intro V2 G2 y1 hW hx hm hg hr hc hG2
      refine J_pop dL_law_814 rfl ?_
      refine J_aload_n dL_law_815 rfl ?_
      refine J_aload_n dL_law_816 rfl ?_
      refine J_iload_n dL_law_817 rfl ?_
      refine J_iconst (v := 1) dL_law_818 (by decide) ?_
      refine J_iadd dL_law_819 ?_
      refine J_sld hs9 dL_law_820 hin1 ?_
      have Kb821 : J tS mL_law 1000 829 [some (.ref b), some (.ref ax), some (.ref am), some (.int i)] [.int w, .ref am] V2 (5 * N + 8 * G2) (491 * N + 20013 * G2) Q := by
        refine Jw_callV1 (q9 := (RX7, TX7, 34)) moX7_ways jw_ml_L_98 jw_im_X7_ways jw_se_X7_ways hm rfl rfl dL_law_829 (w_X7_ways 999 _ am w (by decide) hW hm (by assumption) (by assumption)) (by decide) (Nat.zero_le _) (Nat.zero_le _) (Nat.le_of_ble_eq_true rfl) (fun r V3 h => ?_)
        obtain ⟨⟨hW, he, y2, rfl, hy2⟩, hkp⟩ := h
        have hx := hx.mono he.1
        have hm := hm.mono he.1
        have hg := hg.keep he (jnot_of rfl) (jnot_of rfl)
        have hc := hc.keep he (jdis_of rfl)
        have hr := hr.ref he hkp (by decide) (jdis_of rfl)
        refine J_pop dL_law_832 rfl ?_
        refine J_goto (tgt := 908) dL_law_833 (by decide) ?_
        exact J.less (kc' := 5 * N + 8 * G2) (ks' := 491 * N + 20013 * G2) (by omega) (by omega) (kk _ G2 hW hx hm hg hr hc hG2)
      refine J_if_eq (tgt := 828) dL_law_821 (by decide) (fun c => ?_) (fun c => ?_)
      · skip
        refine J_iconst (v := 0) dL_law_828 (by decide) ?_
        rw [hwz c] at Kb821
        exact Kb821
      · skip
        refine J_iconst (v := 1) dL_law_824 (by decide) ?_
        refine J_goto (tgt := 829) dL_law_825 (by decide) ?_
        rw [hwo c] at Kb821
        exact Kb821
    refine Jw_callV1 (q9 := (RX6, TX6, 7)) moX6_ways jw_ml_L_94 jw_im_X6_ways jw_se_X6_ways hx rfl rfl dL_law_811 (w_X6_ways 999 _ ax w (by decide) hW hx ) (by decide) (Nat.zero_le _) (Nat.zero_le _) (Nat.le_of_ble_eq_true rfl) (fun r V3 h => ?_)
    obtain ⟨⟨hW2, he, y1, rfl, hy1⟩, hkp⟩ := h
    exact J.less (kc' := 5 * N + 8 * (G)) (ks' := 491 * N + 20013 * (G)) (by omega) (by omega) (K _ (G) _ hW2 (hx.mono he.1) (hm.mono he.1) (hg.keep he (jnot_of rfl) (jnot_of rfl)) (hr.ways he hkp (jdis_of rfl)) (hc.keep he (jdis_of rfl)) (Nat.le_refl _))
  refine J_if_eq (tgt := 810) dL_law_803 (by decide) (fun c => ?_) (fun c => ?_)
  · skip
    refine J_iconst (v := 0) dL_law_810 (by decide) ?_
    rw [hwz c] at Kb803
    exact Kb803
  · skip
    refine J_iconst (v := 1) dL_law_806 (by decide) ?_
    refine J_goto (tgt := 811) dL_law_807 (by decide) ?_
    rw [hwo c] at Kb803
    exact Kb803
set_option maxRecDepth 100000 in
set_option maxHeartbeats 4000000 in
theorem lawc_20 {tS : jTS} {b L : Nat} {xs : Nat → Int32} (hs9 : tS.2 = some (b, L, xs)) (V : jH) (ax am : Nat) (i : Int32) (G N : Nat) {Q : Option Value → jH → Prop} (hW : WT V) (hx : jis V (.inr 4) ax) (hm : jis V (.inr 5) am) (hg : jphi V ax G) (hr : jRL V ax am) (hc : jTX V ax am) (hin1 : vp_in (i + 1) L) (hin2 : vp_in (i + 2) L) (hin3 : vp_in (i + 3) L) (kk : ∀ (V2 : jH) (G2 : Nat), WT V2 → jis V2 (.inr 4) ax → jis V2 (.inr 5) am → jphi V2 ax G2 → jRL V2 ax am → jTX V2 ax am → G2 ≤ G → J tS mL_law 1000 908 [some (.ref b), some (.ref ax), some (.ref am), some (.int i)] [] V2 (5 * N + 8 * G2) (491 * N + 20013 * G2) Q) : J tS mL_law 1000 836 [some (.ref b), some (.ref ax), some (.ref am), some (.int i)] [] V (5 * (N + 1) + 8 * G) (491 * (N + 1) + 20013 * G) Q := by
  refine J_aload_n dL_law_836 rfl ?_
  refine J_aload_n dL_law_837 rfl ?_
  refine J_iload_n dL_law_838 rfl ?_
  refine J_iconst (v := 1) dL_law_839 (by decide) ?_
  refine J_iadd dL_law_840 ?_
  refine J_sld hs9 dL_law_841 hin1 ?_
  have K : ∀ (V2 : jH) (G2 : Nat) (y1 : Int32), WT V2 → jis V2 (.inr 4) ax → jis V2 (.inr 5) am → jphi V2 ax G2 → jRL V2 ax am → jTX V2 ax am → G2 ≤ G → J tS mL_law 1000 845 [some (.ref b), some (.ref ax), some (.ref am), some (.int i)] [.int y1] V2 (5 * N + 8 * G2) (491 * N + 20013 * G2) Q := by
    intro V2 G2 y1 hW hx hm hg hr hc hG2
    refine J_pop dL_law_845 rfl ?_
    refine J_aload_n dL_law_846 rfl ?_
    refine J_aload_n dL_law_847 rfl ?_
    refine J_iload_n dL_law_848 rfl ?_
    refine J_iconst (v := 1) dL_law_849 (by decide) ?_
    refine J_iadd dL_law_850 ?_
    refine J_sld hs9 dL_law_851 hin1 ?_
    refine Jw_callV1 (q9 := (RX7, TX7, 34)) moX7_waysOf jw_ml_L_102 jw_im_X7_waysOf jw_se_X7_waysOf hm rfl rfl dL_law_852 (w_X7_waysOf 999 _ am (xs (i + 1).toNatClampNeg) (by decide) hW hm ) (by decide) (Nat.zero_le _) (Nat.zero_le _) (Nat.le_of_ble_eq_true rfl) (fun r V3 h => ?_)
    obtain ⟨⟨hW, he, y2, rfl, hy2⟩, hkp⟩ := h
    have hx := hx.mono he.1
    have hm := hm.mono he.1
    have hg := hg.keep he (jnot_of rfl) (jnot_of rfl)
    have hc := hc.keep he (jdis_of rfl)
    have hr := hr.ref he hkp (by decide) (jdis_of rfl)
    refine J_pop dL_law_855 rfl ?_
    refine J_goto (tgt := 908) dL_law_856 (by decide) ?_
    exact J.less (kc' := 5 * N + 8 * G2) (ks' := 491 * N + 20013 * G2) (by omega) (by omega) (kk _ G2 hW hx hm hg hr hc hG2)
  refine Jw_callV1 (q9 := (RX6, TX6, 7)) moX6_waysOf jw_ml_L_99 jw_im_X6_waysOf jw_se_X6_waysOf hx rfl rfl dL_law_842 (w_X6_waysOf 999 _ ax (xs (i + 1).toNatClampNeg) (by decide) hW hx ) (by decide) (Nat.zero_le _) (Nat.zero_le _) (Nat.le_of_ble_eq_true rfl) (fun r V3 h => ?_)
  obtain ⟨⟨hW2, he, y1, rfl, hy1⟩, hkp⟩ := h
  exact J.less (kc' := 5 * N + 8 * (G)) (ks' := 491 * N + 20013 * (G)) (by omega) (by omega) (K _ (G) _ hW2 (hx.mono he.1) (hm.mono he.1) (hg.keep he (jnot_of rfl) (jnot_of rfl)) (hr.ways he hkp (jdis_of rfl)) (hc.keep he (jdis_of rfl)) (Nat.le_refl _))
set_option maxRecDepth 100000 in
set_option maxHeartbeats 4000000 in
theorem lawc_21 {tS : jTS} {b L : Nat} {xs : Nat → Int32} (hs9 : tS.2 = some (b, L, xs)) (V : jH) (ax am : Nat) (i : Int32) (G N : Nat) {Q : Option Value → jH → Prop} (hW : WT V) (hx : jis V (.inr 4) ax) (hm : jis V (.inr 5) am) (hg : jphi V ax G) (hr : jRL V ax am) (hc : jTX V ax am) (hin1 : vp_in (i + 1) L) (hin2 : vp_in (i + 2) L) (hin3 : vp_in (i + 3) L) (kk : ∀ (V2 : jH) (G2 : Nat), WT V2 → jis V2 (.inr 4) ax → jis V2 (.inr 5) am → jphi V2 ax G2 → jRL V2 ax am → jTX V2 ax am → G2 ≤ G → J tS mL_law 1000 908 [some (.ref b), some (.ref ax), some (.ref am), some (.int i)] [] V2 (5 * N + 8 * G2) (491 * N + 20013 * G2) Q) : J tS mL_law 1000 859 [some (.ref b), some (.ref ax), some (.ref am), some (.int i)] [] V (5 * (N + 1) + 8 * G) (491 * (N + 1) + 20013 * G) Q := by
  refine J_aload_n dL_law_859 rfl ?_
  have K : ∀ (V2 : jH) (G2 : Nat) (y1 : Int32), WT V2 → jis V2 (.inr 4) ax → jis V2 (.inr 5) am → jphi V2 ax G2 → jRL V2 ax am → jTX V2 ax am → G2 ≤ G → J tS mL_law 1000 863 [some (.ref b), some (.ref ax), some (.ref am), some (.int i)] [.int y1] V2 (5 * N + 8 * G2) (491 * N + 20013 * G2) Q := by
    intro V2 G2 y1 hW hx hm hg hr hc hG2
    refine J_pop dL_law_863 rfl ?_
    refine J_aload_n dL_law_864 rfl ?_
    refine Jw_callV0 (q9 := (RX7, TX7, 34)) moX7_shortest jw_ml_L_107 jw_im_X7_shortest jw_se_X7_shortest hm rfl rfl dL_law_865 (w_X7_shortest 999 _ am  (by decide) hW hm ) (by decide) (Nat.zero_le _) (Nat.zero_le _) (Nat.le_of_ble_eq_true rfl) (fun r V3 h => ?_)
    obtain ⟨⟨hW, he, y2, rfl, hy2⟩, hkp⟩ := h
    have hx := hx.mono he.1
    have hm := hm.mono he.1
    have hg := hg.keep he (jnot_of rfl) (jnot_of rfl)
    have hc := hc.keep he (jdis_of rfl)
    have hr := hr.ref he hkp (by decide) (jdis_of rfl)
    refine J_pop dL_law_868 rfl ?_
    refine J_goto (tgt := 908) dL_law_869 (by decide) ?_
    exact J.less (kc' := 5 * N + 8 * G2) (ks' := 491 * N + 20013 * G2) (by omega) (by omega) (kk _ G2 hW hx hm hg hr hc hG2)
  refine Jw_callV0 (q9 := (RX6, TX6, 7)) moX6_shortest jw_ml_L_103 jw_im_X6_shortest jw_se_X6_shortest hx rfl rfl dL_law_860 (w_X6_shortest 999 _ ax  (by decide) hW hx ) (by decide) (Nat.zero_le _) (Nat.zero_le _) (Nat.le_of_ble_eq_true rfl) (fun r V3 h => ?_)
  obtain ⟨⟨y1, rfl, hy1⟩, hE⟩ := h
  subst hE
  exact J.less (kc' := 5 * N + 8 * (G)) (ks' := 491 * N + 20013 * (G)) (by omega) (by omega) (K _ (G) _ hW hx hm hg hr hc (Nat.le_refl _))
set_option maxRecDepth 100000 in
set_option maxHeartbeats 4000000 in
theorem lawc_22 {tS : jTS} {b L : Nat} {xs : Nat → Int32} (hs9 : tS.2 = some (b, L, xs)) (V : jH) (ax am : Nat) (i : Int32) (G N : Nat) {Q : Option Value → jH → Prop} (hW : WT V) (hx : jis V (.inr 4) ax) (hm : jis V (.inr 5) am) (hg : jphi V ax G) (hr : jRL V ax am) (hc : jTX V ax am) (hin1 : vp_in (i + 1) L) (hin2 : vp_in (i + 2) L) (hin3 : vp_in (i + 3) L) (kk : ∀ (V2 : jH) (G2 : Nat), WT V2 → jis V2 (.inr 4) ax → jis V2 (.inr 5) am → jphi V2 ax G2 → jRL V2 ax am → jTX V2 ax am → G2 ≤ G → J tS mL_law 1000 908 [some (.ref b), some (.ref ax), some (.ref am), some (.int i)] [] V2 (5 * N + 8 * G2) (491 * N + 20013 * G2) Q) : J tS mL_law 1000 872 [some (.ref b), some (.ref ax), some (.ref am), some (.int i)] [] V (5 * (N + 1) + 8 * G) (491 * (N + 1) + 20013 * G) Q := by
  refine J_aload_n dL_law_872 rfl ?_
  refine J_aload_n dL_law_873 rfl ?_
  refine J_iload_n dL_law_874 rfl ?_
  refine J_iconst (v := 1) dL_law_875 (by decide) ?_
  refine J_iadd dL_law_876 ?_
  refine J_sld hs9 dL_law_877 hin1 ?_
  obtain ⟨hrl, hp, hff⟩ := id hr
  obtain ⟨pl, rh, pw, ph, po, HH, r1, r2, c1, c2, c3, m1, m2, hH, hbd, hbt⟩ := jpl.parts hp
  obtain ⟨k9, hk1, hk2⟩ := hrl.cnt
  have hcn := jpl_cnt hbd hbt (fun k hk => (WT_rngI (r := (0, 1)) hW id rfl hH).2 k hk)
  refine Jw_callV1 (q9 := (RX6, TX6, 7)) moX6_count jw_ml_L_108 jw_im_X6_count jw_se_X6_count hx rfl rfl dL_law_878 (w_X6_count_z 999 _ ax (xs (i + 1).toNatClampNeg) k9 pl pw ph po (by decide) hW hx hk1 r1 c1 c2 c3) (by decide) (Nat.zero_le _) (Nat.zero_le _) (Nat.le_of_ble_eq_true rfl) (fun r V4 h => ?_)
  obtain ⟨⟨y1, rfl, -, -, hy1⟩, hE⟩ := h
  have hE := hE.symm
  subst hE
  refine J.less (kc' := 5 * N + 8 * G) (ks' := 491 * N + 20013 * G) (by omega) (by omega) ?_
  obtain ⟨G2, hGe⟩ : ∃ G2 : Nat, G2 = G := ⟨_, rfl⟩
  have hG2 : G2 ≤ G := Nat.le_of_eq hGe
  rw [← hGe] at hg ⊢
  refine J_pop dL_law_881 rfl ?_
  refine J_aload_n dL_law_882 rfl ?_
  refine J_aload_n dL_law_883 rfl ?_
  refine J_iload_n dL_law_884 rfl ?_
  refine J_iconst (v := 1) dL_law_885 (by decide) ?_
  refine J_iadd dL_law_886 ?_
  refine J_sld hs9 dL_law_887 hin1 ?_
  refine Jw_callV1 (q9 := (RX7, TX7, 34)) moX7_count jw_ml_L_111 jw_im_X7_count jw_se_X7_count hm rfl rfl dL_law_888 (w_X7_count_z 999 _ am (xs (i + 1).toNatClampNeg) k9 pw ph rh HH (by decide) hW hm hk2 m1 m2 r2 hH hbd.1 hbd.2.1 hbd.2.2.1 hbd.2.2.2) (by decide) (Nat.zero_le _) (Nat.zero_le _) (Nat.le_of_ble_eq_true rfl) (fun r V3 h => ?_)
  obtain ⟨⟨y2, rfl, -, -, hy2⟩, hE⟩ := h
  have hE := hE.symm
  subst hE
  refine J_pop dL_law_891 rfl ?_
  refine J_goto (tgt := 908) dL_law_892 (by decide) ?_
  exact J.less (kc' := 5 * N + 8 * G2) (ks' := 491 * N + 20013 * G2) (by omega) (by omega) (kk _ G2 hW hx hm hg hr hc hG2)
set_option maxRecDepth 100000 in
set_option maxHeartbeats 4000000 in
theorem lawc_23 {tS : jTS} {b L : Nat} {xs : Nat → Int32} (hs9 : tS.2 = some (b, L, xs)) (V : jH) (ax am : Nat) (i : Int32) (G N : Nat) {Q : Option Value → jH → Prop} (hW : WT V) (hx : jis V (.inr 4) ax) (hm : jis V (.inr 5) am) (hg : jphi V ax G) (hr : jRL V ax am) (hc : jTX V ax am) (hin1 : vp_in (i + 1) L) (hin2 : vp_in (i + 2) L) (hin3 : vp_in (i + 3) L) (kk : ∀ (V2 : jH) (G2 : Nat), WT V2 → jis V2 (.inr 4) ax → jis V2 (.inr 5) am → jphi V2 ax G2 → jRL V2 ax am → jTX V2 ax am → G2 ≤ G → J tS mL_law 1000 908 [some (.ref b), some (.ref ax), some (.ref am), some (.int i)] [] V2 (5 * N + 8 * G2) (491 * N + 20013 * G2) Q) : J tS mL_law 1000 895 [some (.ref b), some (.ref ax), some (.ref am), some (.int i)] [] V (5 * (N + 1) + 8 * G) (491 * (N + 1) + 20013 * G) Q := by
  refine J_aload_n dL_law_895 rfl ?_
  obtain ⟨hs, hp, hff⟩ := id hr
  obtain ⟨k, md, gr, mn, sp, f, GA, MN, SP, A, T, hc1, hr1, ht1, hk, hrows, hsp⟩ := id hs
  obtain ⟨ck, cmd, cA, ctr⟩ := id hc1
  obtain ⟨rk, rgr, rmn, rsp, rGA, rMN, rSP⟩ := id hr1
  obtain ⟨rw, px, py, pz, RW, PX, PY, PZ, q4, q6, q7, q8, b4, b6, b7, b8⟩ := WT_ref hW hm
  obtain ⟨pl, rh, pw, ph, po, HH, p1, p2, c1, c2, c3, m1, m2, hH, hbd, hbt⟩ := jpl.parts hp
  obtain ⟨cn, hcn⟩ := jcn_ex (t := fun n => (jbt po n).toNat) (fun i _ => by cases jbt po i <;> decide)
  have hcn7 := hcn.trans (jpl_cnt hbd hbt (fun k hk => (WT_rngI (r := (0, 1)) hW id rfl hH).2 k hk))
  refine Jw_callV0 (q9 := (RX6, TX6, 7)) moX6_digest jw_ml_L_112 jw_im_X6_digest jw_se_X6_digest hx rfl rfl dL_law_896 (w_X6_digest_z 999 _ ax k md pl pw ph po f A GA MN SP cn (by decide) hW hx ck cmd p1 c1 c2 c3 cA hrows hbd.1 hbd.2.1 hbd.2.2.1 hbd.2.2.2 hcn) (by decide) (Nat.zero_le _) (Nat.zero_le _) (Nat.le_of_ble_eq_true rfl) (fun r V4 h => ?_)
  obtain ⟨⟨y1, rfl, hy1⟩, hE⟩ := h
  have hE := hE.symm
  subst hE
  refine J.less (kc' := 5 * N + 8 * G) (ks' := 491 * N + 20013 * G) (by omega) (by omega) ?_
  obtain ⟨G2, hGe⟩ : ∃ G2 : Nat, G2 = G := ⟨_, rfl⟩
  have hG2 : G2 ≤ G := Nat.le_of_eq hGe
  rw [← hGe] at hg ⊢
  refine J_pop2L dL_law_899 rfl ?_
  refine J_aload_n dL_law_900 rfl ?_
  refine Jw_callV0 (q9 := (RX7, TX7, 34)) moX7_digest jw_ml_L_116 jw_im_X7_digest jw_se_X7_digest hm rfl rfl dL_law_901 (w_X7_digest_z 999 _ am k pw ph gr mn sp rh cn GA MN SP HH (by decide) hW hm rk m1 m2 rgr rmn rsp p2 rGA rMN rSP hH hbd.1 hbd.2.1 hbd.2.2.1 hbd.2.2.2 hcn7) (by decide) (Nat.zero_le _) (Nat.zero_le _) (Nat.le_of_ble_eq_true rfl) (fun r V3 h => ?_)
  obtain ⟨⟨y2, rfl, hy2⟩, hE⟩ := h
  have hE := hE.symm
  subst hE
  have hyL : y1 = y2 := by rw [hy1, hy2]; exact jdh_congr _ _ (jpl_dig hbd hbt)
  refine J_pop2L dL_law_904 rfl ?_
  refine J_goto (tgt := 908) dL_law_905 (by decide) ?_
  exact J.less (kc' := 5 * N + 8 * G2) (ks' := 491 * N + 20013 * G2) (by omega) (by omega) (kk _ G2 hW hx hm hg hr hc hG2)
theorem law_head {tS : jTS} {b L : Nat} {xs : Nat → Int32} (hs9 : tS.2 = some (b, L, xs)) (hL : L ≤ 2048) {V : jH} {ax am : Nat} {i : Int32} {kc ks : Nat} {Q : Option Value → jH → Prop} (hQ : ∀ V : jH, Q (some (.int 1)) V) (k : i.toInt ≤ (L : Int) - 4 → J tS mL_law 1000 26 [some (.ref b), some (.ref ax), some (.ref am), some (.int i)] [] V kc ks Q) : J tS mL_law 1000 18 [some (.ref b), some (.ref ax), some (.ref am), some (.int i)] [] V kc ks Q := by
  have hl : (Int32.ofNat L).toInt = (L : Int) := jn_len (by omega)
  have hs : (Int32.ofNat L - 4).toInt = (L : Int) - 4 := by
    have h4 : (4 : Int32).toInt = 4 := rfl
    rw [j_sub (by omega) (by omega)]
    omega
  refine J_iload_n dL_law_18 rfl ?_
  refine J_aload_n dL_law_19 rfl ?_
  refine J_slen hs9 dL_law_20 ?_
  refine J_iconst (v := 4) dL_law_21 (by decide) ?_
  refine J_isub dL_law_22 ?_
  refine J_icmp_gt (tgt := 914) dL_law_23 (by decide) (fun _ => ?_) (fun c => k (by rw [jlt] at c; omega))
  refine J_iconst (v := 1) dL_law_914 (by decide) ?_
  exact J_ret (r := some (.int 1)) dL_law_915 ⟨rfl, _, rfl, rfl⟩ (hQ _)
set_option maxRecDepth 100000 in
set_option maxHeartbeats 4000000 in
theorem law_loop {tS : jTS} {b L : Nat} {xs : Nat → Int32} (hs9 : tS.2 = some (b, L, xs)) (hL : L ≤ 2048) (ax am : Nat) {Q : Option Value → jH → Prop} (hQ : ∀ V : jH, Q (some (.int 1)) V) : ∀ (N : Nat) (V : jH) (i : Int32) (G : Nat), WT V → jis V (.inr 4) ax → jis V (.inr 5) am → jphi V ax G → jRL V ax am → jTX V ax am → 0 ≤ i.toInt → (L : Int) - i.toInt ≤ 4 * (N : Int) → J tS mL_law 1000 18 [some (.ref b), some (.ref ax), some (.ref am), some (.int i)] [] V (5 * N + 8 * G) (491 * N + 20013 * G) Q := by
  intro N
  induction N with
  | zero =>
    intro V i G hW hx hm hg hr hc h0 hN
    exact law_head hs9 hL hQ (fun h => (show False by omega).elim)
  | succ N ih =>
    intro V i G hW hx hm hg hr hc h0 hN
    refine law_head hs9 hL hQ (fun h => ?_)
    have hadd : ∀ c : Int32, 0 ≤ c.toInt → c.toInt ≤ 4 → (i + c).toInt = i.toInt + c.toInt := fun c h1 h2 => j_add (by omega) (by omega)
    have hin0 : vp_in i L := vp_in_n h0 (by omega)
    have hin1 : vp_in (i + 1) L := by have q := hadd 1 (by decide) (by decide); have q1 : (1 : Int32).toInt = 1 := rfl; exact vp_in_n (by omega) (by omega)
    have hin2 : vp_in (i + 2) L := by have q := hadd 2 (by decide) (by decide); have q1 : (2 : Int32).toInt = 2 := rfl; exact vp_in_n (by omega) (by omega)
    have hin3 : vp_in (i + 3) L := by have q := hadd 3 (by decide) (by decide); have q1 : (3 : Int32).toInt = 3 := rfl; exact vp_in_n (by omega) (by omega)
    have kk : ∀ (V2 : jH) (G2 : Nat), WT V2 → jis V2 (.inr 4) ax → jis V2 (.inr 5) am → jphi V2 ax G2 → jRL V2 ax am → jTX V2 ax am → G2 ≤ G → J tS mL_law 1000 908 [some (.ref b), some (.ref ax), some (.ref am), some (.int i)] [] V2 (5 * N + 8 * G2) (491 * N + 20013 * G2) Q := by
      intro V2 G2 hW2 hx2 hm2 hg2 hr2 hc2 _
      have q := hadd 4 (by decide) (by decide)
      have q1 : (4 : Int32).toInt = 4 := rfl
      refine J_iinc (v := i + 4) dL_law_908 rfl j_inc4 rfl (by decide) ?_
      refine J_goto (tgt := 18) dL_law_911 (by decide) ?_
      exact ih V2 (i + 4) G2 hW2 hx2 hm2 hg2 hr2 hc2 (by omega) (by omega)
    refine J_aload_n dL_law_26 rfl ?_
    refine J_iload_n dL_law_27 rfl ?_
    refine J_sld hs9 dL_law_28 hin0 ?_
    refine J_bipush (v := 31) dL_law_29 (by decide) ?_
    refine J_iand dL_law_31 ?_
    rcases jsw23 (xs i.toNatClampNeg &&& 31) with hq | hq | hq | hq | hq | hq | hq | hq | hq | hq | hq | hq | hq | hq | hq | hq | hq | hq | hq | hq | hq | hq | hq | hq | hq | hq
    · rw [hq]
      refine J_tableIn (tgt := 144) dL_law_32 (by decide) (by decide) rfl (by decide) ?_
      exact lawc_0 hs9 V ax am i G N hW hx hm hg hr hc hin1 hin2 hin3 kk
    · rw [hq]
      refine J_tableIn (tgt := 167) dL_law_32 (by decide) (by decide) rfl (by decide) ?_
      exact lawc_1 hs9 V ax am i G N hW hx hm hg hr hc hin1 hin2 hin3 kk
    · rw [hq]
      refine J_tableIn (tgt := 200) dL_law_32 (by decide) (by decide) rfl (by decide) ?_
      exact lawc_2 hs9 V ax am i G N hW hx hm hg hr hc hin1 hin2 hin3 kk
    · rw [hq]
      refine J_tableIn (tgt := 233) dL_law_32 (by decide) (by decide) rfl (by decide) ?_
      exact lawc_3 hs9 V ax am i G N hW hx hm hg hr hc hin1 hin2 hin3 kk
    · rw [hq]
      refine J_tableIn (tgt := 276) dL_law_32 (by decide) (by decide) rfl (by decide) ?_
      exact lawc_4 hs9 V ax am i G N hW hx hm hg hr hc hin1 hin2 hin3 kk
    · rw [hq]
      refine J_tableIn (tgt := 309) dL_law_32 (by decide) (by decide) rfl (by decide) ?_
      exact lawc_5 hs9 V ax am i G N hW hx hm hg hr hc hin1 hin2 hin3 kk
    · rw [hq]
      refine J_tableIn (tgt := 332) dL_law_32 (by decide) (by decide) rfl (by decide) ?_
      exact lawc_6 hs9 V ax am i G N hW hx hm hg hr hc hin1 hin2 hin3 kk
    · rw [hq]
      refine J_tableIn (tgt := 365) dL_law_32 (by decide) (by decide) rfl (by decide) ?_
      exact lawc_7 hs9 V ax am i G N hW hx hm hg hr hc hin1 hin2 hin3 kk
    · rw [hq]
      refine J_tableIn (tgt := 408) dL_law_32 (by decide) (by decide) rfl (by decide) ?_
      exact lawc_8 hs9 V ax am i G N hW hx hm hg hr hc hin1 hin2 hin3 kk
    · rw [hq]
      refine J_tableIn (tgt := 441) dL_law_32 (by decide) (by decide) rfl (by decide) ?_
      exact lawc_9 hs9 V ax am i G N hW hx hm hg hr hc hin1 hin2 hin3 kk
    · rw [hq]
      refine J_tableIn (tgt := 474) dL_law_32 (by decide) (by decide) rfl (by decide) ?_
      exact lawc_10 hs9 V ax am i G N hW hx hm hg hr hc hin1 hin2 hin3 kk
    · rw [hq]
      refine J_tableIn (tgt := 507) dL_law_32 (by decide) (by decide) rfl (by decide) ?_
      exact lawc_11 hs9 V ax am i G N hW hx hm hg hr hc hin1 hin2 hin3 kk
    · rw [hq]
      refine J_tableIn (tgt := 540) dL_law_32 (by decide) (by decide) rfl (by decide) ?_
      exact lawc_12 hs9 V ax am i G N hW hx hm hg hr hc hin1 hin2 hin3 kk
    · rw [hq]
      refine J_tableIn (tgt := 573) dL_law_32 (by decide) (by decide) rfl (by decide) ?_
      exact lawc_13 hs9 V ax am i G N hW hx hm hg hr hc hin1 hin2 hin3 kk
    · rw [hq]
      refine J_tableIn (tgt := 606) dL_law_32 (by decide) (by decide) rfl (by decide) ?_
      exact lawc_14 hs9 V ax am i G N hW hx hm hg hr hc hin1 hin2 hin3 kk
    · rw [hq]
      refine J_tableIn (tgt := 639) dL_law_32 (by decide) (by decide) rfl (by decide) ?_
      exact lawc_15 hs9 V ax am i G N hW hx hm hg hr hc hin1 hin2 hin3 kk
    · rw [hq]
      refine J_tableIn (tgt := 672) dL_law_32 (by decide) (by decide) rfl (by decide) ?_
      exact lawc_16 hs9 V ax am i G N hW hx hm hg hr hc hin1 hin2 hin3 kk
    · rw [hq]
      refine J_tableIn (tgt := 705) dL_law_32 (by decide) (by decide) rfl (by decide) ?_
      exact lawc_17 hs9 V ax am i G N hW hx hm hg hr hc hin1 hin2 hin3 kk
    · rw [hq]
      refine J_tableIn (tgt := 738) dL_law_32 (by decide) (by decide) rfl (by decide) ?_
      exact lawc_18 hs9 V ax am i G N hW hx hm hg hr hc hin1 hin2 hin3 kk
    · rw [hq]
      refine J_tableIn (tgt := 797) dL_law_32 (by decide) (by decide) rfl (by decide) ?_
      exact lawc_19 hs9 V ax am i G N hW hx hm hg hr hc hin1 hin2 hin3 kk
    · rw [hq]
      refine J_tableIn (tgt := 836) dL_law_32 (by decide) (by decide) rfl (by decide) ?_
      exact lawc_20 hs9 V ax am i G N hW hx hm hg hr hc hin1 hin2 hin3 kk
    · rw [hq]
      refine J_tableIn (tgt := 859) dL_law_32 (by decide) (by decide) rfl (by decide) ?_
      exact lawc_21 hs9 V ax am i G N hW hx hm hg hr hc hin1 hin2 hin3 kk
    · rw [hq]
      refine J_tableIn (tgt := 872) dL_law_32 (by decide) (by decide) rfl (by decide) ?_
      exact lawc_22 hs9 V ax am i G N hW hx hm hg hr hc hin1 hin2 hin3 kk
    · rw [hq]
      refine J_tableIn (tgt := 895) dL_law_32 (by decide) (by decide) rfl (by decide) ?_
      exact lawc_23 hs9 V ax am i G N hW hx hm hg hr hc hin1 hin2 hin3 kk
    · refine J_tableOut (tgt := 908) dL_law_32 (Or.inl hq) (by decide) ?_
      exact J.less (kc' := 5 * N + 8 * G) (ks' := 491 * N + 20013 * G) (by omega) (by omega) (kk V G hW hx hm hg hr hc (Nat.le_refl _))
    · refine J_tableOut (tgt := 908) dL_law_32 (Or.inr hq) (by decide) ?_
      exact J.less (kc' := 5 * N + 8 * G) (ks' := 491 * N + 20013 * G) (by omega) (by omega) (kk V G hW hx hm hg hr hc (Nat.le_refl _))
set_option maxRecDepth 100000 in
set_option maxHeartbeats 4000000 in
theorem law_J {tA : Nat → Nat} {b L : Nat} {xs : Nat → Int32} (hL : L ≤ 2048) : J (tA, some (b, L, xs)) mL_law 1000 0 [some (.ref b), none, none, none] [] (fun _ => none) 600000 7302250 (fun r _ => r = some (.int 1)) := by
  have hW : WT (fun _ => none) := fun a e _ h => by cases h
  refine Jc_new jn_L_7 dL_law_0 (by decide) (by decide) hW (fun ax V1 hn1 hQ1 hk1 hW he1 => ?_)
  refine J_dup dL_law_3 rfl ?_
  refine J_callI0 moX6_init rfl rfl jw_ml_L_9 jw_im_X6_init dL_law_4 (w_X6_init_t 999 _ _ (by decide) hW hQ1) (by decide) (by decide) (by decide) (Nat.le_of_ble_eq_true rfl) (fun r V2 h => ?_)
  obtain ⟨rfl, hW, he2, hx, hk1, hpx, htx, hff, hTL, hTF⟩ := h
  refine J_astore_n dL_law_7 rfl (by decide) ?_
  refine Jc_new jn_L_10 dL_law_8 (by decide) (by decide) hW (fun am V3 hn3 hQ3 hk3 hW he3 => ?_)
  have hx := hx.mono he3.1
  have hk1 := hk1.keep he3 (jnot_of rfl)
  have hpx := hpx.keep he3 (jnot_of rfl) (jnot_of rfl)
  have htx := htx.keep he3 (jdis_of rfl)
  refine J_dup dL_law_11 rfl ?_
  refine J_callI0 moX7_init rfl rfl jw_ml_L_12 jw_im_X7_init dL_law_12 (w_X7_init_t 999 _ _ (by decide) hW hQ3) (by decide) (by decide) (by decide) (Nat.le_of_ble_eq_true rfl) (fun r V4 h => ?_)
  obtain ⟨rfl, hW, he4, hm, hk2, hk3, hk4, hmx, hRM, hRF⟩ := h
  have hx := hx.mono he4.1
  have hk1 := hk1.keep he4 (jnot_of rfl)
  have hpx := hpx.keep he4 (jnot_of rfl) (jnot_of rfl)
  have htx := htx.keep he4 (jdis_of rfl)
  refine J_astore_n dL_law_15 rfl (by decide) ?_
  refine J_iconst (v := 0) dL_law_16 (by decide) ?_
  refine J_istore_n dL_law_17 rfl (by decide) ?_
  exact J.less (kc' := 5 * 512 + 8 * 36) (ks' := 491 * 512 + 20013 * 36) (by decide) (by decide) (law_loop rfl hL ax am (fun _ => rfl) 512 V4 0 36 hW hx hm (jphi.init hW hx) ⟨jrs.init hW hx hm hk1 hk2 htx, jpl.init hpx hmx hk3 hk4, (hff.mono he3.1).mono he4.1⟩ ⟨(hTL.keep he3 (jdis_of rfl)).keep he4 (jdis_of rfl), hRM, (hTF.keep he3 (jdis_of rfl)).keep he4 (jdis_of rfl), hRF⟩ (by decide) (by show (L : Int) - 0 ≤ 4 * (512 : Int); omega))
