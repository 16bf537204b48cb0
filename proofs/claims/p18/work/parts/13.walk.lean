set_option maxRecDepth 100000 in
set_option maxHeartbeats 4000000 in
theorem w_X6_rowOf {tS : jTS} (d : Nat) (V0 : jH) (a0 : Nat) (x1 : Int32)  (hd : 0 ≤ d) (hW : WT V0) (ha0 : jis V0 (.inr 4) a0)  : jTot tS mX6_rowOf d [.ref a0, .int x1] V0 0 0 (fun r V => (rQ (.inr 1)) r V ∧ V = V0) := by
  refine jTot.of_J [some (.ref a0), some (.int x1)] moX6_rowOf (Nat.le_of_ble_eq_true rfl) rfl ?_
  have he : jeff [] V0 V0 := jeff.refl _ _
  refine J_iload_n dX6_rowOf_0 rfl ?_
  refine J_if_lt (tgt := 30) dX6_rowOf_1 (by decide) (fun c1 => ?_) (fun c1 => ?_)
  · refine J_null dX6_rowOf_30 ?_
    exact J_ret (r := some .null) dX6_rowOf_31 ⟨rfl, _, rfl, Or.inl ⟨_, rfl⟩⟩ (⟨Or.inl rfl, rfl⟩)
  · refine J_iload_n dX6_rowOf_4 rfl ?_
    refine J_aload_n dX6_rowOf_5 rfl ?_
    obtain ⟨fs6, hO6, hK6⟩ := WT_obj hW id ha0
    obtain ⟨w6, hF6, y6, rfl, hl6, hh6⟩ := hK6.2 1 (.inl (0, 16)) rfl
    dsimp only at hl6 hh6
    refine J_get jf_X6_15 dX6_rowOf_6 hO6 hF6 ?_
    refine J_icmp_ge (tgt := 30) dX6_rowOf_9 (by decide) (fun c9 => ?_) (fun c9 => ?_)
    · refine J_null dX6_rowOf_30 ?_
      exact J_ret (r := some .null) dX6_rowOf_31 ⟨rfl, _, rfl, Or.inl ⟨_, rfl⟩⟩ (⟨Or.inl rfl, rfl⟩)
    · refine J_iload_n dX6_rowOf_12 rfl ?_
      refine J_aload_n dX6_rowOf_13 rfl ?_
      obtain ⟨w14, hF14, b14, rfl, hb14⟩ := hK6.2 0 (.inr (some (.inl 4))) rfl
      refine J_get jf_X6_11 dX6_rowOf_14 hO6 hF14 ?_
      obtain ⟨n17, f17, hA17, hN17, hM17, hv17⟩ := WT_arrR hW id rfl hb14
      obtain rfl := hM17 16 rfl
      refine J_alen (v := Int32.ofNat 16) dX6_rowOf_17 hA17 rfl rfl ?_
      refine J_icmp_ge (tgt := 30) dX6_rowOf_18 (by decide) (fun c18 => ?_) (fun c18 => ?_)
      · refine J_null dX6_rowOf_30 ?_
        exact J_ret (r := some .null) dX6_rowOf_31 ⟨rfl, _, rfl, Or.inl ⟨_, rfl⟩⟩ (⟨Or.inl rfl, rfl⟩)
      · refine J_aload_n dX6_rowOf_21 rfl ?_
        refine J_get jf_X6_11 dX6_rowOf_22 hO6 hF14 ?_
        refine J_iload_n dX6_rowOf_25 rfl ?_
        refine Jw_aald dX6_rowOf_26 rfl hA17 hv17 (by first | exact vp_in_g (by assumption) (by assumption) (by assumption) | exact vp_in_g1 (by assumption) (by assumption) (by assumption) | exact vp_in_g2 (by assumption) (by assumption) (by assumption) | exact vp_in_g3 (by assumption) (by assumption) (by assumption) | exact vp_in_n (by omega) (by omega)) ?_ (fun b26 hb26 => ?_)
        · refine J_goto (tgt := 31) dX6_rowOf_27 (by decide) ?_
          exact J_ret (r := some .null) dX6_rowOf_31 ⟨rfl, _, rfl, Or.inl ⟨_, rfl⟩⟩ (⟨Or.inl rfl, rfl⟩)
        · refine J_goto (tgt := 31) dX6_rowOf_27 (by decide) ?_
          exact J_ret (r := some (.ref _)) dX6_rowOf_31 ⟨rfl, _, rfl, Or.inl ⟨_, rfl⟩⟩ (⟨Or.inr ⟨_, rfl, hb26⟩, rfl⟩)
set_option maxRecDepth 100000 in
set_option maxHeartbeats 4000000 in
theorem w_X6_stepAt {tS : jTS} (d : Nat) (V0 : jH) (a0 : Nat) (x1 : Int32) (x2 : Int32)  (hd : 2 ≤ d) (hW : WT V0) (ha0 : jis V0 (.inr 4) a0)  : jTot tS mX6_stepAt d [.ref a0, .int x1, .int x2] V0 0 0 (fun r V => rN r V ∧ V = V0) := by
  refine jTot.of_J [some (.ref a0), some (.int x1), some (.int x2), none] moX6_stepAt (Nat.le_of_ble_eq_true rfl) rfl ?_
  have he : jeff [] V0 V0 := jeff.refl _ _
  refine J_aload_n dX6_stepAt_0 rfl ?_
  refine J_iload_n dX6_stepAt_1 rfl ?_
  refine Jw_callV1 (q9 := (RX6, TX6, 7)) moX6_rowOf jw_ml_X6_55 jw_im_X6_rowOf jw_se_X6_rowOf ha0 rfl rfl dX6_stepAt_2 (w_X6_rowOf (d - 1) _ _ _ (by omega) hW  ha0 ) (by omega) (Nat.zero_le _) (Nat.zero_le _) (Nat.le_of_ble_eq_true rfl) (fun r2 V2 h2 => ?_)
  obtain ⟨hr2, hE2⟩ := h2
  have hE2 := hE2.symm
  subst hE2
  rcases hr2 with rfl | ⟨b2, rfl, hb2⟩
  · refine J_astore_nN dX6_stepAt_5 rfl (by decide) ?_
    refine J_aload_nN dX6_stepAt_6 rfl ?_
    refine J_ifnullN (tgt := 14) dX6_stepAt_7 (by decide) ?_
    refine J_bipush (v := -2) dX6_stepAt_14 (by decide) ?_
    exact J_ret (r := some (.int _)) dX6_stepAt_16 ⟨rfl, _, rfl, rfl⟩ (⟨rN_of _, rfl⟩)
  · refine J_astore_n dX6_stepAt_5 rfl (by decide) ?_
    refine J_aload_n dX6_stepAt_6 rfl ?_
    refine J_ifnull dX6_stepAt_7 ?_
    refine J_iload_n dX6_stepAt_10 rfl ?_
    refine J_if_ge (tgt := 17) dX6_stepAt_11 (by decide) (fun c11 => ?_) (fun c11 => ?_)
    · refine J_iload_n dX6_stepAt_17 rfl ?_
      refine J_aload_n dX6_stepAt_18 rfl ?_
      obtain ⟨fs19, hO19, hK19⟩ := WT_obj hW id hb2
      obtain ⟨w19, hF19, y19, rfl, hl19, hh19⟩ := hK19.2 6 (.inl (0, 120)) rfl
      dsimp only at hl19 hh19
      refine J_get jf_X6_69 dX6_stepAt_19 hO19 hF19 ?_
      refine J_icmp_ge (tgt := 33) dX6_stepAt_22 (by decide) (fun c22 => ?_) (fun c22 => ?_)
      · refine J_iconst (v := -1) dX6_stepAt_33 (by decide) ?_
        exact J_ret (r := some (.int _)) dX6_stepAt_34 ⟨rfl, _, rfl, rfl⟩ (⟨rN_of _, rfl⟩)
      · refine J_aload_n dX6_stepAt_25 rfl ?_
        refine J_iload_n dX6_stepAt_26 rfl ?_
        refine Jw_callV1 (q9 := (RX3, TX3, 7)) moX3_direction jw_ml_X6_81 jw_im_X3_direction jw_se_X3_direction hb2 rfl rfl dX6_stepAt_27 (w_X3_direction (d - 1) _ _ _ (by omega) hW  hb2 ) (by omega) (Nat.zero_le _) (Nat.zero_le _) (Nat.le_of_ble_eq_true rfl) (fun r27 V27 h27 => ?_)
        obtain ⟨⟨y27, rfl, hl27, hh27⟩, hE27⟩ := h27
        have hE27 := hE27.symm
        subst hE27
        refine J_goto (tgt := 34) dX6_stepAt_30 (by decide) ?_
        exact J_ret (r := some (.int _)) dX6_stepAt_34 ⟨rfl, _, rfl, rfl⟩ (⟨rN_of _, rfl⟩)
    · refine J_bipush (v := -2) dX6_stepAt_14 (by decide) ?_
      exact J_ret (r := some (.int _)) dX6_stepAt_16 ⟨rfl, _, rfl, rfl⟩ (⟨rN_of _, rfl⟩)
set_option maxRecDepth 100000 in
set_option maxHeartbeats 4000000 in
theorem w_X6_form {tS : jTS} (d : Nat) (V0 : jH) (a0 : Nat) (x1 : Int32) (x2 : Int32)  (hd : 6 ≤ d) (hW : WT V0) (ha0 : jis V0 (.inr 4) a0)  : jTot tS mX6_form d [.ref a0, .int x1, .int x2] V0 0 0 (jPost [.inl 7] V0 rN) := by
  refine jTot.of_J [some (.ref a0), some (.int x1), some (.int x2), none] moX6_form (Nat.le_of_ble_eq_true rfl) rfl ?_
  have he : jeff [.inl 7] V0 V0 := jeff.refl _ _
  refine J_aload_n dX6_form_0 rfl ?_
  refine J_iload_n dX6_form_1 rfl ?_
  refine Jw_callV1 (q9 := (RX6, TX6, 7)) moX6_rowOf jw_ml_X6_55 jw_im_X6_rowOf jw_se_X6_rowOf ha0 rfl rfl dX6_form_2 (w_X6_rowOf (d - 1) _ _ _ (by omega) hW  ha0 ) (by omega) (Nat.zero_le _) (Nat.zero_le _) (Nat.le_of_ble_eq_true rfl) (fun r2 V2 h2 => ?_)
  obtain ⟨hr2, hE2⟩ := h2
  have hE2 := hE2.symm
  subst hE2
  rcases hr2 with rfl | ⟨b2, rfl, hb2⟩
  · refine J_astore_nN dX6_form_5 rfl (by decide) ?_
    refine J_aload_nN dX6_form_6 rfl ?_
    refine J_ifnullN (tgt := 14) dX6_form_7 (by decide) ?_
    refine J_bipush (v := -2) dX6_form_14 (by decide) ?_
    exact J_ret (r := some (.int _)) dX6_form_16 ⟨rfl, _, rfl, rfl⟩ (⟨hW, he, rN_of _⟩)
  · refine J_astore_n dX6_form_5 rfl (by decide) ?_
    refine J_aload_n dX6_form_6 rfl ?_
    refine J_ifnull dX6_form_7 ?_
    refine J_iload_n dX6_form_10 rfl ?_
    refine J_if_ge (tgt := 17) dX6_form_11 (by decide) (fun c11 => ?_) (fun c11 => ?_)
    · refine J_iload_n dX6_form_17 rfl ?_
      refine J_aload_n dX6_form_18 rfl ?_
      obtain ⟨fs19, hO19, hK19⟩ := WT_obj hW id hb2
      obtain ⟨w19, hF19, y19, rfl, hl19, hh19⟩ := hK19.2 6 (.inl (0, 120)) rfl
      dsimp only at hl19 hh19
      refine J_get jf_X6_69 dX6_form_19 hO19 hF19 ?_
      refine J_icmp_lt (tgt := 27) dX6_form_22 (by decide) (fun c22 => ?_) (fun c22 => ?_)
      · refine J_aload_n dX6_form_27 rfl ?_
        refine J_aload_n dX6_form_28 rfl ?_
        obtain ⟨fs29, hO29, hK29⟩ := WT_obj hW id ha0
        obtain ⟨w29, hF29, b29, rfl, hb29⟩ := hK29.2 3 (.inr (some (.inl 7))) rfl
        refine J_get jf_X6_26 dX6_form_29 hO29 hF29 ?_
        refine J_callS2 moX1_writeForm jw_ml_X6_143 jw_st_X1_writeForm dX6_form_32 (w_X1_writeForm (d - 1) _ _ _ (by omega) hW  hb2 hb29 ) (by omega) (Nat.zero_le _) (Nat.zero_le _) (Nat.le_of_ble_eq_true rfl) (fun r32 V32 h32 => ?_)
        obtain ⟨hW, hx32, hr32⟩ := h32
        have he := he.trans (hx32.sub (jsub_of rfl))
        have ha0 := ha0.mono hx32.1
        have hb2 := hb2.mono hx32.1
        have hb29 := hb29.mono hx32.1
        have hO19 := hx32.2 _ _ hO19 (jnot_of rfl)
        have hK19 := hK19.mono hx32.1
        have hO29 := hx32.2 _ _ hO29 (jnot_of rfl)
        have hK29 := hK29.mono hx32.1
        cases hr32
        refine J_aload_n dX6_form_35 rfl ?_
        refine J_get jf_X6_26 dX6_form_36 hO29 hF29 ?_
        refine J_iload_n dX6_form_39 rfl ?_
        refine J_callS2 moX6_cell jw_ml_X6_110 jw_st_X6_cell dX6_form_40 (w_X6_cell (d - 1) _ _ _ hW hb29 rfl rfl) (by omega) (Nat.zero_le _) (Nat.zero_le _) (Nat.le_of_ble_eq_true rfl) (fun r40 V40 h40 => ?_)
        obtain ⟨⟨y40, rfl, hl40, hh40⟩, hE40⟩ := h40
        have hE40 := hE40.symm
        subst hE40
        exact J_ret (r := some (.int _)) dX6_form_43 ⟨rfl, _, rfl, rfl⟩ (⟨hW, he, rN_of _⟩)
      · refine J_iconst (v := -1) dX6_form_25 (by decide) ?_
        exact J_ret (r := some (.int _)) dX6_form_26 ⟨rfl, _, rfl, rfl⟩ (⟨hW, he, rN_of _⟩)
    · refine J_bipush (v := -2) dX6_form_14 (by decide) ?_
      exact J_ret (r := some (.int _)) dX6_form_16 ⟨rfl, _, rfl, rfl⟩ (⟨hW, he, rN_of _⟩)
set_option maxRecDepth 100000 in
set_option maxHeartbeats 4000000 in
theorem w_X6_ways {tS : jTS} (d : Nat) (V0 : jH) (a0 : Nat) (x1 : Int32)  (hd : 43 ≤ d) (hW : WT V0) (ha0 : jis V0 (.inr 4) a0)  : jTot tS mX6_ways d [.ref a0, .int x1] V0 0 0 (fun r V => (jPost [.inr 0, .inl 12] V0 rN) r V ∧ jkc 0 [1, 2, 3] V0 V) := by
  refine jTot.of_J [some (.ref a0), some (.int x1)] moX6_ways (Nat.le_of_ble_eq_true rfl) rfl ?_
  have he : jeff [.inr 0, .inl 12] V0 V0 := jeff.refl _ _
  have hkp : jkc 0 [1, 2, 3] V0 V0 := jkc.rf
  refine J_aload_n dX6_ways_0 rfl ?_
  obtain ⟨fs1, hO1, hK1⟩ := WT_obj hW id ha0
  obtain ⟨w1, hF1, b1, rfl, hb1⟩ := hK1.2 6 (.inr (some (.inr 0))) rfl
  refine J_get jf_X6_42 dX6_ways_1 hO1 hF1 ?_
  refine Jw_callV0 (q9 := (RX2, TX2, 9)) moX2_holds jw_ml_X6_220 jw_im_X2_holds jw_se_X2_holds hb1 rfl rfl dX6_ways_4 (w_X2_holds (d - 1) _ _ (by omega) hW  hb1 ) (by omega) (Nat.zero_le _) (Nat.zero_le _) (Nat.le_of_ble_eq_true rfl) (fun r4 V4 h4 => ?_)
  obtain ⟨⟨hW, hx4, hr4⟩, hk4⟩ := h4
  have hkp := hkp.trans hk4
  have he := he.trans (hx4.sub (jsub_of rfl))
  have ha0 := ha0.mono hx4.1
  have hb1 := hb1.mono hx4.1
  have hO1 := hx4.2 _ _ hO1 (jnot_of rfl)
  have hK1 := hK1.mono hx4.1
  obtain ⟨y4, rfl, hl4, hh4⟩ := hr4
  refine J_if_ne (tgt := 13) dX6_ways_7 (by decide) (fun c7 => ?_) (fun c7 => ?_)
  · refine J_iload_n dX6_ways_13 rfl ?_
    refine J_if_eq (tgt := 27) dX6_ways_14 (by decide) (fun c14 => ?_) (fun c14 => ?_)
    · refine J_aload_n dX6_ways_27 rfl ?_
      refine J_get jf_X6_42 dX6_ways_28 hO1 hF1 ?_
      obtain ⟨fs31, hO31, hK31⟩ := WT_obj hW id hb1
      obtain ⟨w31, hF31, y31, rfl, hl31, hh31⟩ := hK31.2 5 (.inl ((-2147483648), 2147483647)) rfl
      dsimp only at hl31 hh31
      refine J_get jf_X6_225 dX6_ways_31 hO31 hF31 ?_
      exact J_ret (r := some (.int _)) dX6_ways_34 ⟨rfl, _, rfl, rfl⟩ (⟨⟨hW, he, rN_of _⟩, hkp⟩)
    · refine J_aload_n dX6_ways_17 rfl ?_
      refine J_get jf_X6_42 dX6_ways_18 hO1 hF1 ?_
      obtain ⟨fs21, hO21, hK21⟩ := WT_obj hW id hb1
      obtain ⟨w21, hF21, y21, rfl, hl21, hh21⟩ := hK21.2 6 (.inl ((-2147483648), 2147483647)) rfl
      dsimp only at hl21 hh21
      refine J_get jf_X6_222 dX6_ways_21 hO21 hF21 ?_
      refine J_goto (tgt := 34) dX6_ways_24 (by decide) ?_
      exact J_ret (r := some (.int _)) dX6_ways_34 ⟨rfl, _, rfl, rfl⟩ (⟨⟨hW, he, rN_of _⟩, hkp⟩)
  · refine J_bipush (v := -5) dX6_ways_10 (by decide) ?_
    exact J_ret (r := some (.int _)) dX6_ways_12 ⟨rfl, _, rfl, rfl⟩ (⟨⟨hW, he, rN_of _⟩, hkp⟩)
set_option maxRecDepth 100000 in
set_option maxHeartbeats 4000000 in
theorem w_X6_waysOf {tS : jTS} (d : Nat) (V0 : jH) (a0 : Nat) (x1 : Int32)  (hd : 43 ≤ d) (hW : WT V0) (ha0 : jis V0 (.inr 4) a0)  : jTot tS mX6_waysOf d [.ref a0, .int x1] V0 0 0 (fun r V => (jPost [.inr 0, .inl 12] V0 rN) r V ∧ jkc 0 [1, 2, 3] V0 V) := by
  refine jTot.of_J [some (.ref a0), some (.int x1)] moX6_waysOf (Nat.le_of_ble_eq_true rfl) rfl ?_
  have he : jeff [.inr 0, .inl 12] V0 V0 := jeff.refl _ _
  have hkp : jkc 0 [1, 2, 3] V0 V0 := jkc.rf
  refine J_iload_n dX6_waysOf_0 rfl ?_
  refine J_if_ge (tgt := 7) dX6_waysOf_1 (by decide) (fun c1 => ?_) (fun c1 => ?_)
  · refine J_aload_n dX6_waysOf_7 rfl ?_
    obtain ⟨fs8, hO8, hK8⟩ := WT_obj hW id ha0
    obtain ⟨w8, hF8, b8, rfl, hb8⟩ := hK8.2 6 (.inr (some (.inr 0))) rfl
    refine J_get jf_X6_42 dX6_waysOf_8 hO8 hF8 ?_
    refine Jw_callV0 (q9 := (RX2, TX2, 9)) moX2_holds jw_ml_X6_220 jw_im_X2_holds jw_se_X2_holds hb8 rfl rfl dX6_waysOf_11 (w_X2_holds (d - 1) _ _ (by omega) hW  hb8 ) (by omega) (Nat.zero_le _) (Nat.zero_le _) (Nat.le_of_ble_eq_true rfl) (fun r11 V11 h11 => ?_)
    obtain ⟨⟨hW, hx11, hr11⟩, hk11⟩ := h11
    have hkp := hkp.trans hk11
    have he := he.trans (hx11.sub (jsub_of rfl))
    have ha0 := ha0.mono hx11.1
    have hb8 := hb8.mono hx11.1
    have hO8 := hx11.2 _ _ hO8 (jnot_of rfl)
    have hK8 := hK8.mono hx11.1
    obtain ⟨y11, rfl, hl11, hh11⟩ := hr11
    refine J_if_eq (tgt := 31) dX6_waysOf_14 (by decide) (fun c14 => ?_) (fun c14 => ?_)
    · refine J_bipush (v := -5) dX6_waysOf_31 (by decide) ?_
      exact J_ret (r := some (.int _)) dX6_waysOf_33 ⟨rfl, _, rfl, rfl⟩ (⟨⟨hW, he, rN_of _⟩, hkp⟩)
    · refine J_aload_n dX6_waysOf_17 rfl ?_
      refine J_get jf_X6_42 dX6_waysOf_18 hO8 hF8 ?_
      obtain ⟨fs21, hO21, hK21⟩ := WT_obj hW id hb8
      obtain ⟨w21, hF21, b21, rfl, hb21⟩ := hK21.2 0 (.inr (some (.inl 12))) rfl
      refine J_get jf_X6_228 dX6_waysOf_21 hO21 hF21 ?_
      refine J_iload_n dX6_waysOf_24 rfl ?_
      refine J_callS2 moX6_cell jw_ml_X6_110 jw_st_X6_cell dX6_waysOf_25 (w_X6_cell (d - 1) _ _ _ hW hb21 rfl rfl) (by omega) (Nat.zero_le _) (Nat.zero_le _) (Nat.le_of_ble_eq_true rfl) (fun r25 V25 h25 => ?_)
      obtain ⟨⟨y25, rfl, hl25, hh25⟩, hE25⟩ := h25
      have hE25 := hE25.symm
      subst hE25
      refine J_goto (tgt := 33) dX6_waysOf_28 (by decide) ?_
      exact J_ret (r := some (.int _)) dX6_waysOf_33 ⟨rfl, _, rfl, rfl⟩ (⟨⟨hW, he, rN_of _⟩, hkp⟩)
  · refine J_bipush (v := -2) dX6_waysOf_4 (by decide) ?_
    exact J_ret (r := some (.int _)) dX6_waysOf_6 ⟨rfl, _, rfl, rfl⟩ (⟨⟨hW, he, rN_of _⟩, hkp⟩)
set_option maxRecDepth 100000 in
set_option maxHeartbeats 4000000 in
theorem w_X6_shortest {tS : jTS} (d : Nat) (V0 : jH) (a0 : Nat)  (hd : 3 ≤ d) (hW : WT V0) (ha0 : jis V0 (.inr 4) a0)  : jTot tS mX6_shortest d [.ref a0] V0 0 0 (fun r V => rN r V ∧ V = V0) := by
  refine jTot.of_J [some (.ref a0)] moX6_shortest (Nat.le_of_ble_eq_true rfl) rfl ?_
  have he : jeff [] V0 V0 := jeff.refl _ _
  refine J_aload_n dX6_shortest_0 rfl ?_
  obtain ⟨fs1, hO1, hK1⟩ := WT_obj hW id ha0
  obtain ⟨w1, hF1, b1, rfl, hb1⟩ := hK1.2 6 (.inr (some (.inr 0))) rfl
  refine J_get jf_X6_42 dX6_shortest_1 hO1 hF1 ?_
  refine Jw_callV0 (q9 := (RX2, TX2, 9)) moX2_shortestSteps jw_ml_X6_231 jw_im_X2_shortestSteps jw_se_X2_shortestSteps hb1 rfl rfl dX6_shortest_4 (w_X2_shortestSteps (d - 1) _ _ (by omega) hW  hb1 ) (by omega) (Nat.zero_le _) (Nat.zero_le _) (Nat.le_of_ble_eq_true rfl) (fun r4 V4 h4 => ?_)
  obtain ⟨⟨y4, rfl, hl4, hh4⟩, hE4⟩ := h4
  have hE4 := hE4.symm
  subst hE4
  exact J_ret (r := some (.int _)) dX6_shortest_7 ⟨rfl, _, rfl, rfl⟩ (⟨rN_of _, rfl⟩)
set_option maxRecDepth 100000 in
set_option maxHeartbeats 4000000 in
theorem w_X6_tallyFor_old {tS : jTS} (d : Nat) (V0 : jH) (a0 : Nat) (x1 : Int32) (x2 : Int32) (x3 : Int32) (fs : List Value) (tl : Nat) (f : Nat → Option Nat) (hd : 2 ≤ d) (hW : WT V0) (ha0 : jis V0 (.inr 4) a0) (hx : V0 a0 = some (.inr (4, fs))) (h5 : fs[5]? = some (.ref tl)) (htl : V0 tl = some (.inl (5, 4, .inr (.inr (.inr (.inr f)))))) (ho : ∀ j, x1 = nI j → j < 4 → ∃ t, f j = some t) (hb1 : ¬ x1 < 0) (hb2 : ¬ Int32.ofNat 4 ≤ x1) (hb3 : ¬ x2 < x3) (hb4 : x2 ≤ 20) : jTot tS mX6_tallyFor d [.ref a0, .int x1, .int x2, .int x3] V0 0 0 (fun r V => (∃ j t : Nat, j < 4 ∧ x1 = nI j ∧ f j = some t ∧ r = some (.ref t)) ∧ V = V0) := by
  refine jTot.of_J [some (.ref a0), some (.int x1), some (.int x2), some (.int x3), none] moX6_tallyFor (Nat.le_of_ble_eq_true rfl) rfl ?_
  have he : jeff [] V0 V0 := jeff.refl _ _
  have hKx : jokO V0 (jFs 4) fs := hW _ _ id hx
  have htlk : jis V0 (.inl 5) tl := ⟨_, htl, rfl⟩
  have hN4 : (4 : Nat) < 2 ^ 31 := by decide
  have hvt : ∀ (j b : Nat), j < 4 → f j = some b → jis V0 (.inr 2) b := by
    obtain ⟨n9, f9, h91, h92, h93, h94⟩ := WT_arrR hW id rfl htlk
    cases htl.symm.trans h91
    exact h94
  refine J_iload_n dX6_tallyFor_0 rfl ?_
  refine J_if_lt (tgt := 24) dX6_tallyFor_1 (by decide) (fun c1 => ?_) (fun c1 => ?_)
  · exact False.elim (by first | exact hb1 c1 | exact hb2 c10 | exact hb3 c15 | exact c21 hb4)
  · refine J_iload_n dX6_tallyFor_4 rfl ?_
    refine J_aload_n dX6_tallyFor_5 rfl ?_
    refine J_get jf_X6_35 dX6_tallyFor_6 hx h5 ?_
    refine J_alen (v := Int32.ofNat 4) dX6_tallyFor_9 htl rfl rfl ?_
    refine J_icmp_ge (tgt := 24) dX6_tallyFor_10 (by decide) (fun c10 => ?_) (fun c10 => ?_)
    · exact False.elim (by first | exact hb1 c1 | exact hb2 c10 | exact hb3 c15 | exact c21 hb4)
    · refine J_iload_n dX6_tallyFor_13 rfl ?_
      refine J_iload_n dX6_tallyFor_14 rfl ?_
      refine J_icmp_lt (tgt := 24) dX6_tallyFor_15 (by decide) (fun c15 => ?_) (fun c15 => ?_)
      · exact False.elim (by first | exact hb1 c1 | exact hb2 c10 | exact hb3 c15 | exact c21 hb4)
      · refine J_iload_n dX6_tallyFor_18 rfl ?_
        refine J_bipush (v := 20) dX6_tallyFor_19 (by decide) ?_
        refine J_icmp_le (tgt := 26) dX6_tallyFor_21 (by decide) (fun c21 => ?_) (fun c21 => ?_)
        · refine J_aload_n dX6_tallyFor_26 rfl ?_
          refine J_get jf_X6_35 dX6_tallyFor_27 hx h5 ?_
          refine J_iload_n dX6_tallyFor_30 rfl ?_
          have hin : vp_in x1 4 := by exact vp_in_g (by assumption) (by assumption) (by assumption)
          obtain ⟨j, hj, hg⟩ := vp_in_of hin (by decide)
          obtain ⟨t, ht⟩ := ho j hg hj
          have hcl : x1.toNatClampNeg = j := by rw [hg]; exact nI_clamp (by omega)
          have hbt : jis V0 (.inr 2) t := hvt j t hj ht
          refine J_aald dX6_tallyFor_31 (t := 5) rfl htl hin ?_
          rw [hcl, ht, show va_rf (some t) = Value.ref t from rfl]
          · refine J_astore dX6_tallyFor_32 rfl (by decide) ?_
            refine J_aload dX6_tallyFor_34 rfl ?_
            refine J_ifnonnull (tgt := 57) dX6_tallyFor_36 (by decide) ?_
            refine J_aload dX6_tallyFor_57 rfl ?_
            exact J_ret (r := some (.ref _)) dX6_tallyFor_59 ⟨rfl, _, rfl, Or.inl ⟨_, rfl⟩⟩ (⟨⟨j, t, hj, hg, ht, rfl⟩, rfl⟩)
        · exact False.elim (by first | exact hb1 c1 | exact hb2 c10 | exact hb3 c15 | exact c21 hb4)
set_option maxRecDepth 100000 in
set_option maxHeartbeats 4000000 in
theorem w_X6_tallyFor_bad {tS : jTS} (d : Nat) (V0 : jH) (a0 : Nat) (x1 : Int32) (x2 : Int32) (x3 : Int32)  (hd : 2 ≤ d) (hW : WT V0) (ha0 : jis V0 (.inr 4) a0) (hbad : x1 < 0 ∨ Int32.ofNat 4 ≤ x1 ∨ x2 < x3 ∨ ¬ x2 ≤ 20) : jTot tS mX6_tallyFor d [.ref a0, .int x1, .int x2, .int x3] V0 0 0 (fun r V => r = some .null ∧ V = V0) := by
  refine jTot.of_J [some (.ref a0), some (.int x1), some (.int x2), some (.int x3), none] moX6_tallyFor (Nat.le_of_ble_eq_true rfl) rfl ?_
  have he : jeff [] V0 V0 := jeff.refl _ _
  refine J_iload_n dX6_tallyFor_0 rfl ?_
  refine J_if_lt (tgt := 24) dX6_tallyFor_1 (by decide) (fun c1 => ?_) (fun c1 => ?_)
  · refine J_null dX6_tallyFor_24 ?_
    exact J_ret (r := some .null) dX6_tallyFor_25 ⟨rfl, _, rfl, Or.inl ⟨_, rfl⟩⟩ (⟨rfl, rfl⟩)
  · refine J_iload_n dX6_tallyFor_4 rfl ?_
    refine J_aload_n dX6_tallyFor_5 rfl ?_
    obtain ⟨fs6, hO6, hK6⟩ := WT_obj hW id ha0
    obtain ⟨w6, hF6, b6, rfl, hb6⟩ := hK6.2 5 (.inr (some (.inl 5))) rfl
    refine J_get jf_X6_35 dX6_tallyFor_6 hO6 hF6 ?_
    obtain ⟨n9, f9, hA9, hN9, hM9, hv9⟩ := WT_arrR hW id rfl hb6
    obtain rfl := hM9 4 rfl
    refine J_alen (v := Int32.ofNat 4) dX6_tallyFor_9 hA9 rfl rfl ?_
    refine J_icmp_ge (tgt := 24) dX6_tallyFor_10 (by decide) (fun c10 => ?_) (fun c10 => ?_)
    · refine J_null dX6_tallyFor_24 ?_
      exact J_ret (r := some .null) dX6_tallyFor_25 ⟨rfl, _, rfl, Or.inl ⟨_, rfl⟩⟩ (⟨rfl, rfl⟩)
    · refine J_iload_n dX6_tallyFor_13 rfl ?_
      refine J_iload_n dX6_tallyFor_14 rfl ?_
      refine J_icmp_lt (tgt := 24) dX6_tallyFor_15 (by decide) (fun c15 => ?_) (fun c15 => ?_)
      · refine J_null dX6_tallyFor_24 ?_
        exact J_ret (r := some .null) dX6_tallyFor_25 ⟨rfl, _, rfl, Or.inl ⟨_, rfl⟩⟩ (⟨rfl, rfl⟩)
      · refine J_iload_n dX6_tallyFor_18 rfl ?_
        refine J_bipush (v := 20) dX6_tallyFor_19 (by decide) ?_
        refine J_icmp_le (tgt := 26) dX6_tallyFor_21 (by decide) (fun c21 => ?_) (fun c21 => ?_)
        · exact False.elim (hbad.elim c1 (fun h => h.elim c10 (fun h => h.elim c15 (fun h => h c21))))
        · refine J_null dX6_tallyFor_24 ?_
          exact J_ret (r := some .null) dX6_tallyFor_25 ⟨rfl, _, rfl, Or.inl ⟨_, rfl⟩⟩ (⟨rfl, rfl⟩)
