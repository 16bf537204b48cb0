set_option maxRecDepth 100000 in
set_option maxHeartbeats 4000000 in
theorem w_X6_rowOf {tS : jTS} (d : Nat) (V0 : jH) (a0 : Nat) (x1 : Int32)  (hd : 0 ≤ d) (hW : WT V0) (ha0 : jis V0 (.inr 4) a0)  : jTot tS mX6_rowOf d [.ref a0, .int x1] V0 0 0 (fun r V => (rQ (.inr 1)) r V ∧ V = V0) := by
  refine jTot.of_J [some (.ref a0), some (.int x1)] moX6_rowOf (Nat.le_of_ble_eq_true rfl) rfl ?_
  have he : jeff [] V0 V0 := jeff.refl _ _
  refine J_iload_n dX6_rowOf_0 rfl ?_
  refine J_if_lt (tgt := 30) dX6_rowOf_1 (by decide) (fun c1 => ?_) (fun c1 => ?_)
  · refine J_null dX6_rowOf_30 ?_
    exact J_ret (r := some .null) dX6_rowOf_31 ⟨rfl, _, rfl, Or.inl ⟨_, rfl⟩⟩ (⟨Or.inl rfl, rfl⟩)
  · refine J_iload_n dX6_rowOf_4 rfl ?_
    refine J_aload_n dX6_rowOf_5 rfl ?_
    obtain ⟨fs6, hO6, hK6⟩ := WT_obj hW id ha0
    obtain ⟨w6, hF6, y6, rfl, hl6, hh6⟩ := hK6.2 1 (.inl (0, 16)) rfl
    dsimp only at hl6 hh6
    refine J_get jf_X6_15 dX6_rowOf_6 hO6 hF6 ?_
    refine J_icmp_ge (tgt := 30) dX6_rowOf_9 (by decide) (fun c9 => ?_) (fun c9 => ?_)
    · refine J_null dX6_rowOf_30 ?_
      exact J_ret (r := some .null) dX6_rowOf_31 ⟨rfl, _, rfl, Or.inl ⟨_, rfl⟩⟩ (⟨Or.inl rfl, rfl⟩)
    · refine J_iload_n dX6_rowOf_12 rfl ?_
      refine J_aload_n dX6_rowOf_13 rfl ?_
      obtain ⟨w14, hF14, b14, rfl, hb14⟩ := hK6.2 0 (.inr (some (.inl 4))) rfl
      refine J_get jf_X6_11 dX6_rowOf_14 hO6 hF14 ?_
      obtain ⟨n17, f17, hA17, hN17, hM17, hv17⟩ := WT_arrR hW id rfl hb14
      obtain rfl := hM17 16 rfl
      refine J_alen (v := Int32.ofNat 16) dX6_rowOf_17 hA17 rfl rfl ?_
      refine J_icmp_ge (tgt := 30) dX6_rowOf_18 (by decide) (fun c18 => ?_) (fun c18 => ?_)
      · refine J_null dX6_rowOf_30 ?_
        exact J_ret (r := some .null) dX6_rowOf_31 ⟨rfl, _, rfl, Or.inl ⟨_, rfl⟩⟩ (⟨Or.inl rfl, rfl⟩)
      · refine J_aload_n dX6_rowOf_21 rfl ?_
        refine J_get jf_X6_11 dX6_rowOf_22 hO6 hF14 ?_
        refine J_iload_n dX6_rowOf_25 rfl ?_
        refine Jw_aald dX6_rowOf_26 rfl hA17 hv17 (by first | exact vp_in_g (by assumption) (by assumption) (by assumption) | exact vp_in_g1 (by assumption) (by assumption) (by assumption) | exact vp_in_g2 (by assumption) (by assumption) (by assumption) | exact vp_in_g3 (by assumption) (by assumption) (by assumption) | exact vp_in_n (by omega) (by omega)) ?_ (fun b26 hb26 => ?_)
        · refine J_goto (tgt := 31) dX6_rowOf_27 (by decide) ?_
          exact J_ret (r := some .null) dX6_rowOf_31 ⟨rfl, _, rfl, Or.inl ⟨_, rfl⟩⟩ (⟨Or.inl rfl, rfl⟩)
        · refine J_goto (tgt := 31) dX6_rowOf_27 (by decide) ?_
          exact J_ret (r := some (.ref _)) dX6_rowOf_31 ⟨rfl, _, rfl, Or.inl ⟨_, rfl⟩⟩ (⟨Or.inr ⟨_, rfl, hb26⟩, rfl⟩)
set_option maxRecDepth 100000 in
set_option maxHeartbeats 4000000 in
theorem w_X6_step {tS : jTS} (d : Nat) (V0 : jH) (a0 : Nat) (x1 : Int32) (x2 : Int32)  (hd : 4 ≤ d) (hW : WT V0) (ha0 : jis V0 (.inr 4) a0)  : jTot tS mX6_step d [.ref a0, .int x1, .int x2] V0 0 0 (jPost [.inr 1, .inl 6, .inl 34, .inl 35, .inl 36] V0 rN) := by
  refine jTot.of_J [some (.ref a0), some (.int x1), some (.int x2), none] moX6_step (Nat.le_of_ble_eq_true rfl) rfl ?_
  have he : jeff [.inr 1, .inl 6, .inl 34, .inl 35, .inl 36] V0 V0 := jeff.refl _ _
  refine J_aload_n dX6_step_0 rfl ?_
  refine J_iload_n dX6_step_1 rfl ?_
  refine Jw_callV1 (q9 := (RX6, TX6, 7)) moX6_rowOf jw_ml_X6_55 jw_im_X6_rowOf jw_se_X6_rowOf ha0 rfl rfl dX6_step_2 (w_X6_rowOf (d - 1) _ _ _ (by omega) hW  ha0 ) (by omega) (Nat.zero_le _) (Nat.zero_le _) (Nat.le_of_ble_eq_true rfl) (fun r2 V2 h2 => ?_)
  obtain ⟨hr2, hE2⟩ := h2
  have hE2 := hE2.symm
  subst hE2
  rcases hr2 with rfl | ⟨b2, rfl, hb2⟩
  · refine J_astore_nN dX6_step_5 rfl (by decide) ?_
    refine J_aload_nN dX6_step_6 rfl ?_
    refine J_ifnullN (tgt := 21) dX6_step_7 (by decide) ?_
    refine J_bipush (v := -2) dX6_step_21 (by decide) ?_
    exact J_ret (r := some (.int _)) dX6_step_23 ⟨rfl, _, rfl, rfl⟩ (⟨hW, he, rN_of _⟩)
  · refine J_astore_n dX6_step_5 rfl (by decide) ?_
    refine J_aload_n dX6_step_6 rfl ?_
    refine J_ifnull dX6_step_7 ?_
    refine J_aload_n dX6_step_10 rfl ?_
    obtain ⟨fs11, hO11, hK11⟩ := WT_obj hW id hb2
    obtain ⟨w11, hF11, y11, rfl, hl11, hh11⟩ := hK11.2 5 (.inl ((-2147483648), 2147483647)) rfl
    dsimp only at hl11 hh11
    refine J_get jf_X6_59 dX6_step_11 hO11 hF11 ?_
    refine J_iload_n dX6_step_14 rfl ?_
    refine J_callS2 moX0_isDirection jw_ml_X6_62 jw_st_X0_isDirection dX6_step_15 (w_X0_isDirection (d - 1) _ _ _ (by omega)    ) (by omega) (Nat.zero_le _) (Nat.zero_le _) (Nat.le_of_ble_eq_true rfl) (fun r15 V15 h15 => ?_)
    obtain ⟨⟨y15, rfl, hl15, hh15⟩, hE15⟩ := h15
    have hE15 := hE15.symm
    subst hE15
    refine J_if_ne (tgt := 24) dX6_step_18 (by decide) (fun c18 => ?_) (fun c18 => ?_)
    · refine J_aload_n dX6_step_24 rfl ?_
      refine J_iload_n dX6_step_25 rfl ?_
      refine Jw_callV1 (q9 := (RX3, TX3, 7)) moX3_leads jw_ml_X6_66 jw_im_X3_leads jw_se_X3_leads hb2 rfl rfl dX6_step_26 (w_X3_leads (d - 1) _ _ _ (by omega) hW  hb2 ) (by omega) (Nat.zero_le _) (Nat.zero_le _) (Nat.le_of_ble_eq_true rfl) (fun r26 V26 h26 => ?_)
      obtain ⟨⟨y26, rfl, hl26, hh26⟩, hE26⟩ := h26
      have hE26 := hE26.symm
      subst hE26
      refine J_if_ne (tgt := 35) dX6_step_29 (by decide) (fun c29 => ?_) (fun c29 => ?_)
      · refine J_aload_n dX6_step_35 rfl ?_
        obtain ⟨w36, hF36, y36, rfl, hl36, hh36⟩ := hK11.2 6 (.inl (0, 120)) rfl
        dsimp only at hl36 hh36
        refine J_get jf_X6_69 dX6_step_36 hO11 hF36 ?_
        refine J_bipush (v := 60) dX6_step_39 (by decide) ?_
        refine J_icmp_lt (tgt := 47) dX6_step_41 (by decide) (fun c41 => ?_) (fun c41 => ?_)
        · refine J_aload_n dX6_step_47 rfl ?_
          refine J_iload_n dX6_step_48 rfl ?_
          refine Jw_callV1 (q9 := (RX3, TX3, 7)) moX3_lay jw_ml_X6_72 jw_im_X3_lay jw_se_X3_lay hb2 rfl rfl dX6_step_49 (w_X3_lay (d - 1) _ _ _ (by omega) hW  hb2 ) (by omega) (Nat.zero_le _) (Nat.zero_le _) (Nat.le_of_ble_eq_true rfl) (fun r49 V49 h49 => ?_)
          obtain ⟨hW, hx49, hr49⟩ := h49
          have he := he.trans (hx49.sub (jsub_of rfl))
          have ha0 := ha0.mono hx49.1
          have hb2 := hb2.mono hx49.1
          obtain ⟨y49, rfl, hl49, hh49⟩ := hr49
          refine J_pop dX6_step_52 rfl ?_
          refine J_aload_n dX6_step_53 rfl ?_
          obtain ⟨fs54, hO54, hK54⟩ := WT_obj hW id hb2
          obtain ⟨w54, hF54, y54, rfl, hl54, hh54⟩ := hK54.2 6 (.inl (0, 120)) rfl
          dsimp only at hl54 hh54
          refine J_get jf_X6_69 dX6_step_54 hO54 hF54 ?_
          exact J_ret (r := some (.int _)) dX6_step_57 ⟨rfl, _, rfl, rfl⟩ (⟨hW, he, rN_of _⟩)
        · refine J_bipush (v := -4) dX6_step_44 (by decide) ?_
          exact J_ret (r := some (.int _)) dX6_step_46 ⟨rfl, _, rfl, rfl⟩ (⟨hW, he, rN_of _⟩)
      · refine J_bipush (v := -3) dX6_step_32 (by decide) ?_
        exact J_ret (r := some (.int _)) dX6_step_34 ⟨rfl, _, rfl, rfl⟩ (⟨hW, he, rN_of _⟩)
    · refine J_bipush (v := -2) dX6_step_21 (by decide) ?_
      exact J_ret (r := some (.int _)) dX6_step_23 ⟨rfl, _, rfl, rfl⟩ (⟨hW, he, rN_of _⟩)
set_option maxRecDepth 100000 in
set_option maxHeartbeats 4000000 in
theorem w_X6_back {tS : jTS} (d : Nat) (V0 : jH) (a0 : Nat) (x1 : Int32) (x2 : Int32)  (hd : 2 ≤ d) (hW : WT V0) (ha0 : jis V0 (.inr 4) a0)  : jTot tS mX6_back d [.ref a0, .int x1, .int x2] V0 0 0 (jPost [.inr 1] V0 rN) := by
  refine jTot.of_J [some (.ref a0), some (.int x1), some (.int x2), none] moX6_back (Nat.le_of_ble_eq_true rfl) rfl ?_
  have he : jeff [.inr 1] V0 V0 := jeff.refl _ _
  refine J_aload_n dX6_back_0 rfl ?_
  refine J_iload_n dX6_back_1 rfl ?_
  refine Jw_callV1 (q9 := (RX6, TX6, 7)) moX6_rowOf jw_ml_X6_55 jw_im_X6_rowOf jw_se_X6_rowOf ha0 rfl rfl dX6_back_2 (w_X6_rowOf (d - 1) _ _ _ (by omega) hW  ha0 ) (by omega) (Nat.zero_le _) (Nat.zero_le _) (Nat.le_of_ble_eq_true rfl) (fun r2 V2 h2 => ?_)
  obtain ⟨hr2, hE2⟩ := h2
  have hE2 := hE2.symm
  subst hE2
  rcases hr2 with rfl | ⟨b2, rfl, hb2⟩
  · refine J_astore_nN dX6_back_5 rfl (by decide) ?_
    refine J_aload_nN dX6_back_6 rfl ?_
    refine J_ifnullN (tgt := 22) dX6_back_7 (by decide) ?_
    refine J_bipush (v := -2) dX6_back_22 (by decide) ?_
    exact J_ret (r := some (.int _)) dX6_back_24 ⟨rfl, _, rfl, rfl⟩ (⟨hW, he, rN_of _⟩)
  · refine J_astore_n dX6_back_5 rfl (by decide) ?_
    refine J_aload_n dX6_back_6 rfl ?_
    refine J_ifnull dX6_back_7 ?_
    refine J_iload_n dX6_back_10 rfl ?_
    refine J_if_lt (tgt := 22) dX6_back_11 (by decide) (fun c11 => ?_) (fun c11 => ?_)
    · refine J_bipush (v := -2) dX6_back_22 (by decide) ?_
      exact J_ret (r := some (.int _)) dX6_back_24 ⟨rfl, _, rfl, rfl⟩ (⟨hW, he, rN_of _⟩)
    · refine J_iload_n dX6_back_14 rfl ?_
      refine J_aload_n dX6_back_15 rfl ?_
      obtain ⟨fs16, hO16, hK16⟩ := WT_obj hW id hb2
      obtain ⟨w16, hF16, y16, rfl, hl16, hh16⟩ := hK16.2 6 (.inl (0, 120)) rfl
      dsimp only at hl16 hh16
      refine J_get jf_X6_69 dX6_back_16 hO16 hF16 ?_
      refine J_icmp_le (tgt := 25) dX6_back_19 (by decide) (fun c19 => ?_) (fun c19 => ?_)
      · refine J_aload_n dX6_back_25 rfl ?_
        refine J_iload_n dX6_back_26 rfl ?_
        refine Jw_callV1 (q9 := (RX3, TX3, 7)) moX3_drop jw_ml_X6_75 jw_im_X3_drop jw_se_X3_drop hb2 rfl rfl dX6_back_27 (w_X3_drop (d - 1) _ _ _ (by omega) hW  hb2 ) (by omega) (Nat.zero_le _) (Nat.zero_le _) (Nat.le_of_ble_eq_true rfl) (fun r27 V27 h27 => ?_)
        obtain ⟨hW, hx27, hr27⟩ := h27
        have he := he.trans (hx27.sub (jsub_of rfl))
        have ha0 := ha0.mono hx27.1
        have hb2 := hb2.mono hx27.1
        cases hr27
        refine J_aload_n dX6_back_30 rfl ?_
        obtain ⟨fs31, hO31, hK31⟩ := WT_obj hW id hb2
        obtain ⟨w31, hF31, y31, rfl, hl31, hh31⟩ := hK31.2 6 (.inl (0, 120)) rfl
        dsimp only at hl31 hh31
        refine J_get jf_X6_69 dX6_back_31 hO31 hF31 ?_
        exact J_ret (r := some (.int _)) dX6_back_34 ⟨rfl, _, rfl, rfl⟩ (⟨hW, he, rN_of _⟩)
      · refine J_bipush (v := -2) dX6_back_22 (by decide) ?_
        exact J_ret (r := some (.int _)) dX6_back_24 ⟨rfl, _, rfl, rfl⟩ (⟨hW, he, rN_of _⟩)
set_option maxRecDepth 100000 in
set_option maxHeartbeats 4000000 in
theorem w_X6_pivot {tS : jTS} (d : Nat) (V0 : jH) (a0 : Nat) (x1 : Int32) (x2 : Int32) (x3 : Int32)  (hd : 4 ≤ d) (hW : WT V0) (ha0 : jis V0 (.inr 4) a0)  : jTot tS mX6_pivot d [.ref a0, .int x1, .int x2, .int x3] V0 0 0 (jPost [.inr 1, .inl 6, .inl 34, .inl 35, .inl 36] V0 rN) := by
  refine jTot.of_J [some (.ref a0), some (.int x1), some (.int x2), some (.int x3), none, none, none] moX6_pivot (Nat.le_of_ble_eq_true rfl) rfl ?_
  have he : jeff [.inr 1, .inl 6, .inl 34, .inl 35, .inl 36] V0 V0 := jeff.refl _ _
  refine J_aload_n dX6_pivot_0 rfl ?_
  refine J_iload_n dX6_pivot_1 rfl ?_
  refine Jw_callV1 (q9 := (RX6, TX6, 7)) moX6_rowOf jw_ml_X6_55 jw_im_X6_rowOf jw_se_X6_rowOf ha0 rfl rfl dX6_pivot_2 (w_X6_rowOf (d - 1) _ _ _ (by omega) hW  ha0 ) (by omega) (Nat.zero_le _) (Nat.zero_le _) (Nat.le_of_ble_eq_true rfl) (fun r2 V2 h2 => ?_)
  obtain ⟨hr2, hE2⟩ := h2
  have hE2 := hE2.symm
  subst hE2
  rcases hr2 with rfl | ⟨b2, rfl, hb2⟩
  · refine J_astoreN dX6_pivot_5 rfl (by decide) ?_
    refine J_aloadN dX6_pivot_7 rfl ?_
    refine J_ifnullN (tgt := 37) dX6_pivot_9 (by decide) ?_
    refine J_bipush (v := -2) dX6_pivot_37 (by decide) ?_
    exact J_ret (r := some (.int _)) dX6_pivot_39 ⟨rfl, _, rfl, rfl⟩ (⟨hW, he, rN_of _⟩)
  · refine J_astore dX6_pivot_5 rfl (by decide) ?_
    refine J_aload dX6_pivot_7 rfl ?_
    refine J_ifnull dX6_pivot_9 ?_
    refine J_iload_n dX6_pivot_12 rfl ?_
    refine J_if_lt (tgt := 37) dX6_pivot_13 (by decide) (fun c13 => ?_) (fun c13 => ?_)
    · refine J_bipush (v := -2) dX6_pivot_37 (by decide) ?_
      exact J_ret (r := some (.int _)) dX6_pivot_39 ⟨rfl, _, rfl, rfl⟩ (⟨hW, he, rN_of _⟩)
    · refine J_iload_n dX6_pivot_16 rfl ?_
      refine J_aload dX6_pivot_17 rfl ?_
      obtain ⟨fs19, hO19, hK19⟩ := WT_obj hW id hb2
      obtain ⟨w19, hF19, y19, rfl, hl19, hh19⟩ := hK19.2 6 (.inl (0, 120)) rfl
      dsimp only at hl19 hh19
      refine J_get jf_X6_69 dX6_pivot_19 hO19 hF19 ?_
      refine J_icmp_gt (tgt := 37) dX6_pivot_22 (by decide) (fun c22 => ?_) (fun c22 => ?_)
      · refine J_bipush (v := -2) dX6_pivot_37 (by decide) ?_
        exact J_ret (r := some (.int _)) dX6_pivot_39 ⟨rfl, _, rfl, rfl⟩ (⟨hW, he, rN_of _⟩)
      · refine J_aload dX6_pivot_25 rfl ?_
        obtain ⟨w27, hF27, y27, rfl, hl27, hh27⟩ := hK19.2 5 (.inl ((-2147483648), 2147483647)) rfl
        dsimp only at hl27 hh27
        refine J_get jf_X6_59 dX6_pivot_27 hO19 hF27 ?_
        refine J_iload_n dX6_pivot_30 rfl ?_
        refine J_callS2 moX0_isTurn jw_ml_X6_78 jw_st_X0_isTurn dX6_pivot_31 (w_X0_isTurn (d - 1) _ _ _ (by omega)    ) (by omega) (Nat.zero_le _) (Nat.zero_le _) (Nat.le_of_ble_eq_true rfl) (fun r31 V31 h31 => ?_)
        obtain ⟨⟨y31, rfl, hl31, hh31⟩, hE31⟩ := h31
        have hE31 := hE31.symm
        subst hE31
        refine J_if_ne (tgt := 40) dX6_pivot_34 (by decide) (fun c34 => ?_) (fun c34 => ?_)
        · refine J_aload_n dX6_pivot_40 rfl ?_
          obtain ⟨fs41, hO41, hK41⟩ := WT_obj hW id ha0
          obtain ⟨w41, hF41, b41, rfl, hb41⟩ := hK41.2 2 (.inr (some (.inr 1))) rfl
          refine J_get jf_X6_22 dX6_pivot_41 hO41 hF41 ?_
          refine J_aload dX6_pivot_44 rfl ?_
          refine J_get jf_X6_59 dX6_pivot_46 hO19 hF27 ?_
          refine Jw_callV1 (q9 := (RX3, TX3, 7)) moX3_begin jw_ml_X6_52 jw_im_X3_begin jw_se_X3_begin hb41 rfl rfl dX6_pivot_49 (w_X3_begin (d - 1) _ _ _ (by omega) hW  hb41 ) (by omega) (Nat.zero_le _) (Nat.zero_le _) (Nat.le_of_ble_eq_true rfl) (fun r49 V49 h49 => ?_)
          obtain ⟨hW, hx49, hr49⟩ := h49
          have he := he.trans (hx49.sub (jsub_of rfl))
          have ha0 := ha0.mono hx49.1
          have hb2 := hb2.mono hx49.1
          have hb41 := hb41.mono hx49.1
          have hO41 := hx49.2 _ _ hO41 (jnot_of rfl)
          have hK41 := hK41.mono hx49.1
          cases hr49
          refine J_iconst (v := 0) dX6_pivot_52 (by decide) ?_
          refine J_istore dX6_pivot_53 rfl (by decide) ?_
          have L55 : ∀ (N : Nat) (V : jH) (i5 : Int32), WT V → jeff [.inr 1, .inl 6, .inl 34, .inl 35, .inl 36] V0 V → jis V (.inr 4) a0 → jis V (.inr 1) b2 → (2147483648 - i5.toInt).toNat < N → J tS mX6_pivot d 55 [some (.ref a0), some (.int x1), some (.int x2), some (.int x3), some (.ref b2), some (.int i5), none] [] V 0 0 (jPost [.inr 1, .inl 6, .inl 34, .inl 35, .inl 36] V0 rN) := by
            intro N
            induction N with
            | zero => intro V i5 hW he ha0 hb2  hm; exact absurd hm (Nat.not_lt_zero _)
            | succ N ih =>
              intro V i5 hW he ha0 hb2  hm
              have ih55 := ih
              refine J_iload dX6_pivot_55 rfl ?_
              refine J_aload dX6_pivot_57 rfl ?_
              obtain ⟨fs59, hO59, hK59⟩ := WT_obj hW id hb2
              obtain ⟨w59, hF59, y59, rfl, hl59, hh59⟩ := hK59.2 6 (.inl (0, 120)) rfl
              dsimp only at hl59 hh59
              refine J_get jf_X6_69 dX6_pivot_59 hO59 hF59 ?_
              refine J_icmp_ge (tgt := 115) dX6_pivot_62 (by decide) (fun c62 => ?_) (fun c62 => ?_)
              · refine J_aload dX6_pivot_115 rfl ?_
                refine J_aload_n dX6_pivot_117 rfl ?_
                obtain ⟨fs118, hO118, hK118⟩ := WT_obj hW id ha0
                obtain ⟨w118, hF118, b118, rfl, hb118⟩ := hK118.2 2 (.inr (some (.inr 1))) rfl
                refine J_get jf_X6_22 dX6_pivot_118 hO118 hF118 ?_
                refine Jw_callV1 (q9 := (RX3, TX3, 7)) moX3_become jw_ml_X6_89 jw_im_X3_become jw_se_X3_become hb2 rfl rfl dX6_pivot_121 (w_X3_become (d - 1) _ _ _ (by omega) hW  hb2 hb118 ) (by omega) (Nat.zero_le _) (Nat.zero_le _) (Nat.le_of_ble_eq_true rfl) (fun r121 V121 h121 => ?_)
                obtain ⟨hW, hx121, hr121⟩ := h121
                have he := he.trans (hx121.sub (jsub_of rfl))
                have ha0 := ha0.mono hx121.1
                have hb2 := hb2.mono hx121.1
                have hb118 := hb118.mono hx121.1
                have hO118 := hx121.2 _ _ hO118 (jnot_of rfl)
                have hK118 := hK118.mono hx121.1
                cases hr121
                refine J_iconst (v := 1) dX6_pivot_124 (by decide) ?_
                exact J_ret (r := some (.int _)) dX6_pivot_125 ⟨rfl, _, rfl, rfl⟩ (⟨hW, he, rN_of _⟩)
              · refine J_aload dX6_pivot_65 rfl ?_
                refine J_iload dX6_pivot_67 rfl ?_
                refine Jw_callV1 (q9 := (RX3, TX3, 7)) moX3_direction jw_ml_X6_81 jw_im_X3_direction jw_se_X3_direction hb2 rfl rfl dX6_pivot_69 (w_X3_direction (d - 1) _ _ _ (by omega) hW  hb2 ) (by omega) (Nat.zero_le _) (Nat.zero_le _) (Nat.le_of_ble_eq_true rfl) (fun r69 V69 h69 => ?_)
                obtain ⟨⟨y69, rfl, hl69, hh69⟩, hE69⟩ := h69
                have hE69 := hE69.symm
                subst hE69
                refine J_istore dX6_pivot_72 rfl (by decide) ?_
                refine J_aload_n dX6_pivot_74 rfl ?_
                obtain ⟨fs75, hO75, hK75⟩ := WT_obj hW id ha0
                obtain ⟨w75, hF75, b75, rfl, hb75⟩ := hK75.2 2 (.inr (some (.inr 1))) rfl
                refine J_get jf_X6_22 dX6_pivot_75 hO75 hF75 ?_
                refine J_iload dX6_pivot_78 rfl ?_
                refine J_iload_n dX6_pivot_80 rfl ?_
                refine J_icmp_ge (tgt := 89) dX6_pivot_81 (by decide) (fun c81 => ?_) (fun c81 => ?_)
                · refine J_aload dX6_pivot_89 rfl ?_
                  obtain ⟨w91, hF91, y91, rfl, hl91, hh91⟩ := hK59.2 5 (.inl ((-2147483648), 2147483647)) rfl
                  dsimp only at hl91 hh91
                  refine J_get jf_X6_59 dX6_pivot_91 hO59 hF91 ?_
                  refine J_iload_n dX6_pivot_94 rfl ?_
                  refine J_iload dX6_pivot_95 rfl ?_
                  refine J_callS3 moX0_turned jw_ml_X6_85 jw_st_X0_turned dX6_pivot_97 (w_X0_turned (d - 1) _ _ _ _ (by omega)    ) (by omega) (Nat.zero_le _) (Nat.zero_le _) (Nat.le_of_ble_eq_true rfl) (fun r97 V97 h97 => ?_)
                  obtain ⟨⟨y97, rfl, hl97, hh97⟩, hE97⟩ := h97
                  have hE97 := hE97.symm
                  subst hE97
                  refine Jw_callV1 (q9 := (RX3, TX3, 7)) moX3_lay jw_ml_X6_72 jw_im_X3_lay jw_se_X3_lay hb75 rfl rfl dX6_pivot_100 (w_X3_lay (d - 1) _ _ _ (by omega) hW  hb75 ) (by omega) (Nat.zero_le _) (Nat.zero_le _) (Nat.le_of_ble_eq_true rfl) (fun r100 V100 h100 => ?_)
                  obtain ⟨hW, hx100, hr100⟩ := h100
                  have he := he.trans (hx100.sub (jsub_of rfl))
                  have ha0 := ha0.mono hx100.1
                  have hb2 := hb2.mono hx100.1
                  have hb75 := hb75.mono hx100.1
                  have hO75 := hx100.2 _ _ hO75 (jnot_of rfl)
                  have hK75 := hK75.mono hx100.1
                  obtain ⟨y100, rfl, hl100, hh100⟩ := hr100
                  refine J_if_ne (tgt := 109) dX6_pivot_103 (by decide) (fun c103 => ?_) (fun c103 => ?_)
                  · refine J_iinc dX6_pivot_109 rfl j_inc1 rfl (by decide) ?_
                    refine J_goto (tgt := 55) dX6_pivot_112 (by decide) ?_
                    refine J.mask [true, true, true, true, true, true, false] ?_
                    exact ih55 _ _ hW he ha0 hb2  (jdec_up (Int32.not_le.mp c62) (by assumption))
                  · refine J_bipush (v := -3) dX6_pivot_106 (by decide) ?_
                    exact J_ret (r := some (.int _)) dX6_pivot_108 ⟨rfl, _, rfl, rfl⟩ (⟨hW, he, rN_of _⟩)
                · refine J_iload dX6_pivot_84 rfl ?_
                  refine J_goto (tgt := 100) dX6_pivot_86 (by decide) ?_
                  refine Jw_callV1 (q9 := (RX3, TX3, 7)) moX3_lay jw_ml_X6_72 jw_im_X3_lay jw_se_X3_lay hb75 rfl rfl dX6_pivot_100 (w_X3_lay (d - 1) _ _ _ (by omega) hW  hb75 ) (by omega) (Nat.zero_le _) (Nat.zero_le _) (Nat.le_of_ble_eq_true rfl) (fun r100 V100 h100 => ?_)
                  obtain ⟨hW, hx100, hr100⟩ := h100
                  have he := he.trans (hx100.sub (jsub_of rfl))
                  have ha0 := ha0.mono hx100.1
                  have hb2 := hb2.mono hx100.1
                  have hb75 := hb75.mono hx100.1
                  have hO75 := hx100.2 _ _ hO75 (jnot_of rfl)
                  have hK75 := hK75.mono hx100.1
                  obtain ⟨y100, rfl, hl100, hh100⟩ := hr100
                  refine J_if_ne (tgt := 109) dX6_pivot_103 (by decide) (fun c103 => ?_) (fun c103 => ?_)
                  · refine J_iinc dX6_pivot_109 rfl j_inc1 rfl (by decide) ?_
                    refine J_goto (tgt := 55) dX6_pivot_112 (by decide) ?_
                    refine J.mask [true, true, true, true, true, true, false] ?_
                    exact ih55 _ _ hW he ha0 hb2  (jdec_up (Int32.not_le.mp c62) (by assumption))
                  · refine J_bipush (v := -3) dX6_pivot_106 (by decide) ?_
                    exact J_ret (r := some (.int _)) dX6_pivot_108 ⟨rfl, _, rfl, rfl⟩ (⟨hW, he, rN_of _⟩)
          refine J.mask [true, true, true, true, true, true, false] ?_
          exact L55 _ _ _ hW he ha0 hb2  (Nat.lt_succ_self _)
        · refine J_bipush (v := -2) dX6_pivot_37 (by decide) ?_
          exact J_ret (r := some (.int _)) dX6_pivot_39 ⟨rfl, _, rfl, rfl⟩ (⟨hW, he, rN_of _⟩)
set_option maxRecDepth 100000 in
set_option maxHeartbeats 4000000 in
theorem w_X6_join {tS : jTS} (d : Nat) (V0 : jH) (a0 : Nat) (x1 : Int32) (x2 : Int32)  (hd : 4 ≤ d) (hW : WT V0) (ha0 : jis V0 (.inr 4) a0)  : jTot tS mX6_join d [.ref a0, .int x1, .int x2] V0 0 0 (jPost [.inr 1, .inl 6, .inl 34, .inl 35, .inl 36] V0 rN) := by
  refine jTot.of_J [some (.ref a0), some (.int x1), some (.int x2), none, none, none] moX6_join (Nat.le_of_ble_eq_true rfl) rfl ?_
  have he : jeff [.inr 1, .inl 6, .inl 34, .inl 35, .inl 36] V0 V0 := jeff.refl _ _
  refine J_aload_n dX6_join_0 rfl ?_
  refine J_iload_n dX6_join_1 rfl ?_
  refine Jw_callV1 (q9 := (RX6, TX6, 7)) moX6_rowOf jw_ml_X6_55 jw_im_X6_rowOf jw_se_X6_rowOf ha0 rfl rfl dX6_join_2 (w_X6_rowOf (d - 1) _ _ _ (by omega) hW  ha0 ) (by omega) (Nat.zero_le _) (Nat.zero_le _) (Nat.le_of_ble_eq_true rfl) (fun r2 V2 h2 => ?_)
  obtain ⟨hr2, hE2⟩ := h2
  have hE2 := hE2.symm
  subst hE2
  rcases hr2 with rfl | ⟨b2, rfl, hb2⟩
  · refine J_astore_nN dX6_join_5 rfl (by decide) ?_
    refine J_aload_n dX6_join_6 rfl ?_
    refine J_iload_n dX6_join_7 rfl ?_
    refine Jw_callV1 (q9 := (RX6, TX6, 7)) moX6_rowOf jw_ml_X6_55 jw_im_X6_rowOf jw_se_X6_rowOf ha0 rfl rfl dX6_join_8 (w_X6_rowOf (d - 1) _ _ _ (by omega) hW  ha0 ) (by omega) (Nat.zero_le _) (Nat.zero_le _) (Nat.le_of_ble_eq_true rfl) (fun r8 V8 h8 => ?_)
    obtain ⟨hr8, hE8⟩ := h8
    have hE8 := hE8.symm
    subst hE8
    rcases hr8 with rfl | ⟨b8, rfl, hb8⟩
    · refine J_astoreN dX6_join_11 rfl (by decide) ?_
      refine J_aload_nN dX6_join_13 rfl ?_
      refine J_ifnullN (tgt := 22) dX6_join_14 (by decide) ?_
      refine J_bipush (v := -2) dX6_join_22 (by decide) ?_
      exact J_ret (r := some (.int _)) dX6_join_24 ⟨rfl, _, rfl, rfl⟩ (⟨hW, he, rN_of _⟩)
    · refine J_astore dX6_join_11 rfl (by decide) ?_
      refine J_aload_nN dX6_join_13 rfl ?_
      refine J_ifnullN (tgt := 22) dX6_join_14 (by decide) ?_
      refine J_bipush (v := -2) dX6_join_22 (by decide) ?_
      exact J_ret (r := some (.int _)) dX6_join_24 ⟨rfl, _, rfl, rfl⟩ (⟨hW, he, rN_of _⟩)
  · refine J_astore_n dX6_join_5 rfl (by decide) ?_
    refine J_aload_n dX6_join_6 rfl ?_
    refine J_iload_n dX6_join_7 rfl ?_
    refine Jw_callV1 (q9 := (RX6, TX6, 7)) moX6_rowOf jw_ml_X6_55 jw_im_X6_rowOf jw_se_X6_rowOf ha0 rfl rfl dX6_join_8 (w_X6_rowOf (d - 1) _ _ _ (by omega) hW  ha0 ) (by omega) (Nat.zero_le _) (Nat.zero_le _) (Nat.le_of_ble_eq_true rfl) (fun r8 V8 h8 => ?_)
    obtain ⟨hr8, hE8⟩ := h8
    have hE8 := hE8.symm
    subst hE8
    rcases hr8 with rfl | ⟨b8, rfl, hb8⟩
    · refine J_astoreN dX6_join_11 rfl (by decide) ?_
      refine J_aload_n dX6_join_13 rfl ?_
      refine J_ifnull dX6_join_14 ?_
      refine J_aloadN dX6_join_17 rfl ?_
      refine J_ifnonnullN dX6_join_19 ?_
      refine J_bipush (v := -2) dX6_join_22 (by decide) ?_
      exact J_ret (r := some (.int _)) dX6_join_24 ⟨rfl, _, rfl, rfl⟩ (⟨hW, he, rN_of _⟩)
    · refine J_astore dX6_join_11 rfl (by decide) ?_
      refine J_aload_n dX6_join_13 rfl ?_
      refine J_ifnull dX6_join_14 ?_
      refine J_aload dX6_join_17 rfl ?_
      refine J_ifnonnull (tgt := 25) dX6_join_19 (by decide) ?_
      refine J_aload_n dX6_join_25 rfl ?_
      obtain ⟨fs26, hO26, hK26⟩ := WT_obj hW id hb2
      obtain ⟨w26, hF26, y26, rfl, hl26, hh26⟩ := hK26.2 5 (.inl ((-2147483648), 2147483647)) rfl
      dsimp only at hl26 hh26
      refine J_get jf_X6_59 dX6_join_26 hO26 hF26 ?_
      refine J_aload dX6_join_29 rfl ?_
      obtain ⟨fs31, hO31, hK31⟩ := WT_obj hW id hb8
      obtain ⟨w31, hF31, y31, rfl, hl31, hh31⟩ := hK31.2 5 (.inl ((-2147483648), 2147483647)) rfl
      dsimp only at hl31 hh31
      refine J_get jf_X6_59 dX6_join_31 hO31 hF31 ?_
      refine J_icmp_eq (tgt := 40) dX6_join_34 (by decide) (fun c34 => ?_) (fun c34 => ?_)
      · refine J_aload_n dX6_join_40 rfl ?_
        obtain ⟨fs41, hO41, hK41⟩ := WT_obj hW id ha0
        obtain ⟨w41, hF41, b41, rfl, hb41⟩ := hK41.2 2 (.inr (some (.inr 1))) rfl
        refine J_get jf_X6_22 dX6_join_41 hO41 hF41 ?_
        refine J_aload_n dX6_join_44 rfl ?_
        refine Jw_callV1 (q9 := (RX3, TX3, 7)) moX3_become jw_ml_X6_89 jw_im_X3_become jw_se_X3_become hb41 rfl rfl dX6_join_45 (w_X3_become (d - 1) _ _ _ (by omega) hW  hb41 hb2 ) (by omega) (Nat.zero_le _) (Nat.zero_le _) (Nat.le_of_ble_eq_true rfl) (fun r45 V45 h45 => ?_)
        obtain ⟨hW, hx45, hr45⟩ := h45
        have he := he.trans (hx45.sub (jsub_of rfl))
        have ha0 := ha0.mono hx45.1
        have hb2 := hb2.mono hx45.1
        have hb8 := hb8.mono hx45.1
        have hb41 := hb41.mono hx45.1
        have hO41 := hx45.2 _ _ hO41 (jnot_of rfl)
        have hK41 := hK41.mono hx45.1
        cases hr45
        refine J_iconst (v := 0) dX6_join_48 (by decide) ?_
        refine J_istore dX6_join_49 rfl (by decide) ?_
        have L51 : ∀ (N : Nat) (V : jH) (i5 : Int32), WT V → jeff [.inr 1, .inl 6, .inl 34, .inl 35, .inl 36] V0 V → jis V (.inr 4) a0 → jis V (.inr 1) b2 → jis V (.inr 1) b8 → (2147483648 - i5.toInt).toNat < N → J tS mX6_join d 51 [some (.ref a0), some (.int x1), some (.int x2), some (.ref b2), some (.ref b8), some (.int i5)] [] V 0 0 (jPost [.inr 1, .inl 6, .inl 34, .inl 35, .inl 36] V0 rN) := by
          intro N
          induction N with
          | zero => intro V i5 hW he ha0 hb2 hb8  hm; exact absurd hm (Nat.not_lt_zero _)
          | succ N ih =>
            intro V i5 hW he ha0 hb2 hb8  hm
            have ih51 := ih
            refine J_iload dX6_join_51 rfl ?_
            refine J_aload dX6_join_53 rfl ?_
            obtain ⟨fs55, hO55, hK55⟩ := WT_obj hW id hb8
            obtain ⟨w55, hF55, y55, rfl, hl55, hh55⟩ := hK55.2 6 (.inl (0, 120)) rfl
            dsimp only at hl55 hh55
            refine J_get jf_X6_69 dX6_join_55 hO55 hF55 ?_
            refine J_icmp_ge (tgt := 87) dX6_join_58 (by decide) (fun c58 => ?_) (fun c58 => ?_)
            · refine J_aload_n dX6_join_87 rfl ?_
              obtain ⟨fs88, hO88, hK88⟩ := WT_obj hW id ha0
              obtain ⟨w88, hF88, b88, rfl, hb88⟩ := hK88.2 2 (.inr (some (.inr 1))) rfl
              refine J_get jf_X6_22 dX6_join_88 hO88 hF88 ?_
              obtain ⟨fs91, hO91, hK91⟩ := WT_obj hW id hb88
              obtain ⟨w91, hF91, y91, rfl, hl91, hh91⟩ := hK91.2 6 (.inl (0, 120)) rfl
              dsimp only at hl91 hh91
              refine J_get jf_X6_69 dX6_join_91 hO91 hF91 ?_
              refine J_bipush (v := 60) dX6_join_94 (by decide) ?_
              refine J_icmp_le (tgt := 102) dX6_join_96 (by decide) (fun c96 => ?_) (fun c96 => ?_)
              · refine J_aload_n dX6_join_102 rfl ?_
                refine J_aload_n dX6_join_103 rfl ?_
                refine J_get jf_X6_22 dX6_join_104 hO88 hF88 ?_
                refine Jw_callV1 (q9 := (RX3, TX3, 7)) moX3_become jw_ml_X6_89 jw_im_X3_become jw_se_X3_become hb2 rfl rfl dX6_join_107 (w_X3_become (d - 1) _ _ _ (by omega) hW  hb2 hb88 ) (by omega) (Nat.zero_le _) (Nat.zero_le _) (Nat.le_of_ble_eq_true rfl) (fun r107 V107 h107 => ?_)
                obtain ⟨hW, hx107, hr107⟩ := h107
                have he := he.trans (hx107.sub (jsub_of rfl))
                have ha0 := ha0.mono hx107.1
                have hb2 := hb2.mono hx107.1
                have hb8 := hb8.mono hx107.1
                have hb88 := hb88.mono hx107.1
                have hO88 := hx107.2 _ _ hO88 (jnot_of rfl)
                have hK88 := hK88.mono hx107.1
                cases hr107
                refine J_aload_n dX6_join_110 rfl ?_
                obtain ⟨fs111, hO111, hK111⟩ := WT_obj hW id hb2
                obtain ⟨w111, hF111, y111, rfl, hl111, hh111⟩ := hK111.2 6 (.inl (0, 120)) rfl
                dsimp only at hl111 hh111
                refine J_get jf_X6_69 dX6_join_111 hO111 hF111 ?_
                exact J_ret (r := some (.int _)) dX6_join_114 ⟨rfl, _, rfl, rfl⟩ (⟨hW, he, rN_of _⟩)
              · refine J_bipush (v := -4) dX6_join_99 (by decide) ?_
                exact J_ret (r := some (.int _)) dX6_join_101 ⟨rfl, _, rfl, rfl⟩ (⟨hW, he, rN_of _⟩)
            · refine J_aload_n dX6_join_61 rfl ?_
              obtain ⟨fs62, hO62, hK62⟩ := WT_obj hW id ha0
              obtain ⟨w62, hF62, b62, rfl, hb62⟩ := hK62.2 2 (.inr (some (.inr 1))) rfl
              refine J_get jf_X6_22 dX6_join_62 hO62 hF62 ?_
              refine J_aload dX6_join_65 rfl ?_
              refine J_iload dX6_join_67 rfl ?_
              refine Jw_callV1 (q9 := (RX3, TX3, 7)) moX3_direction jw_ml_X6_81 jw_im_X3_direction jw_se_X3_direction hb8 rfl rfl dX6_join_69 (w_X3_direction (d - 1) _ _ _ (by omega) hW  hb8 ) (by omega) (Nat.zero_le _) (Nat.zero_le _) (Nat.le_of_ble_eq_true rfl) (fun r69 V69 h69 => ?_)
              obtain ⟨⟨y69, rfl, hl69, hh69⟩, hE69⟩ := h69
              have hE69 := hE69.symm
              subst hE69
              refine Jw_callV1 (q9 := (RX3, TX3, 7)) moX3_lay jw_ml_X6_72 jw_im_X3_lay jw_se_X3_lay hb62 rfl rfl dX6_join_72 (w_X3_lay (d - 1) _ _ _ (by omega) hW  hb62 ) (by omega) (Nat.zero_le _) (Nat.zero_le _) (Nat.le_of_ble_eq_true rfl) (fun r72 V72 h72 => ?_)
              obtain ⟨hW, hx72, hr72⟩ := h72
              have he := he.trans (hx72.sub (jsub_of rfl))
              have ha0 := ha0.mono hx72.1
              have hb2 := hb2.mono hx72.1
              have hb8 := hb8.mono hx72.1
              have hb62 := hb62.mono hx72.1
              have hO62 := hx72.2 _ _ hO62 (jnot_of rfl)
              have hK62 := hK62.mono hx72.1
              obtain ⟨y72, rfl, hl72, hh72⟩ := hr72
              refine J_if_ne (tgt := 81) dX6_join_75 (by decide) (fun c75 => ?_) (fun c75 => ?_)
              · refine J_iinc dX6_join_81 rfl j_inc1 rfl (by decide) ?_
                refine J_goto (tgt := 51) dX6_join_84 (by decide) ?_
                refine J.mask [true, true, true, true, true, true] ?_
                exact ih51 _ _ hW he ha0 hb2 hb8  (jdec_up (Int32.not_le.mp c58) (by assumption))
              · refine J_bipush (v := -3) dX6_join_78 (by decide) ?_
                exact J_ret (r := some (.int _)) dX6_join_80 ⟨rfl, _, rfl, rfl⟩ (⟨hW, he, rN_of _⟩)
        refine J.mask [true, true, true, true, true, true] ?_
        exact L51 _ _ _ hW he ha0 hb2 hb8  (Nat.lt_succ_self _)
      · refine J_bipush (v := -3) dX6_join_37 (by decide) ?_
        exact J_ret (r := some (.int _)) dX6_join_39 ⟨rfl, _, rfl, rfl⟩ (⟨hW, he, rN_of _⟩)
set_option maxRecDepth 100000 in
set_option maxHeartbeats 4000000 in
theorem w_X6_turnBack {tS : jTS} (d : Nat) (V0 : jH) (a0 : Nat) (x1 : Int32)  (hd : 4 ≤ d) (hW : WT V0) (ha0 : jis V0 (.inr 4) a0)  : jTot tS mX6_turnBack d [.ref a0, .int x1] V0 0 0 (jPost [.inr 1, .inl 6, .inl 34, .inl 35, .inl 36] V0 rN) := by
  refine jTot.of_J [some (.ref a0), some (.int x1), none, none] moX6_turnBack (Nat.le_of_ble_eq_true rfl) rfl ?_
  have he : jeff [.inr 1, .inl 6, .inl 34, .inl 35, .inl 36] V0 V0 := jeff.refl _ _
  refine J_aload_n dX6_turnBack_0 rfl ?_
  refine J_iload_n dX6_turnBack_1 rfl ?_
  refine Jw_callV1 (q9 := (RX6, TX6, 7)) moX6_rowOf jw_ml_X6_55 jw_im_X6_rowOf jw_se_X6_rowOf ha0 rfl rfl dX6_turnBack_2 (w_X6_rowOf (d - 1) _ _ _ (by omega) hW  ha0 ) (by omega) (Nat.zero_le _) (Nat.zero_le _) (Nat.le_of_ble_eq_true rfl) (fun r2 V2 h2 => ?_)
  obtain ⟨hr2, hE2⟩ := h2
  have hE2 := hE2.symm
  subst hE2
  rcases hr2 with rfl | ⟨b2, rfl, hb2⟩
  · refine J_astore_nN dX6_turnBack_5 rfl (by decide) ?_
    refine J_aload_nN dX6_turnBack_6 rfl ?_
    refine J_ifnonnullN dX6_turnBack_7 ?_
    refine J_bipush (v := -2) dX6_turnBack_10 (by decide) ?_
    exact J_ret (r := some (.int _)) dX6_turnBack_12 ⟨rfl, _, rfl, rfl⟩ (⟨hW, he, rN_of _⟩)
  · refine J_astore_n dX6_turnBack_5 rfl (by decide) ?_
    refine J_aload_n dX6_turnBack_6 rfl ?_
    refine J_ifnonnull (tgt := 13) dX6_turnBack_7 (by decide) ?_
    refine J_aload_n dX6_turnBack_13 rfl ?_
    obtain ⟨fs14, hO14, hK14⟩ := WT_obj hW id hb2
    obtain ⟨w14, hF14, y14, rfl, hl14, hh14⟩ := hK14.2 5 (.inl ((-2147483648), 2147483647)) rfl
    dsimp only at hl14 hh14
    refine J_get jf_X6_59 dX6_turnBack_14 hO14 hF14 ?_
    refine J_iconst (v := 2) dX6_turnBack_17 (by decide) ?_
    refine J_icmp_ne (tgt := 38) dX6_turnBack_18 (by decide) (fun c18 => ?_) (fun c18 => ?_)
    · refine J_aload_n dX6_turnBack_38 rfl ?_
      obtain ⟨fs39, hO39, hK39⟩ := WT_obj hW id ha0
      obtain ⟨w39, hF39, b39, rfl, hb39⟩ := hK39.2 2 (.inr (some (.inr 1))) rfl
      refine J_get jf_X6_22 dX6_turnBack_39 hO39 hF39 ?_
      refine J_aload_n dX6_turnBack_42 rfl ?_
      refine J_get jf_X6_59 dX6_turnBack_43 hO14 hF14 ?_
      refine Jw_callV1 (q9 := (RX3, TX3, 7)) moX3_begin jw_ml_X6_52 jw_im_X3_begin jw_se_X3_begin hb39 rfl rfl dX6_turnBack_46 (w_X3_begin (d - 1) _ _ _ (by omega) hW  hb39 ) (by omega) (Nat.zero_le _) (Nat.zero_le _) (Nat.le_of_ble_eq_true rfl) (fun r46 V46 h46 => ?_)
      obtain ⟨hW, hx46, hr46⟩ := h46
      have he := he.trans (hx46.sub (jsub_of rfl))
      have ha0 := ha0.mono hx46.1
      have hb2 := hb2.mono hx46.1
      have hb39 := hb39.mono hx46.1
      have hO39 := hx46.2 _ _ hO39 (jnot_of rfl)
      have hK39 := hK39.mono hx46.1
      cases hr46
      refine J_aload_n dX6_turnBack_49 rfl ?_
      obtain ⟨fs50, hO50, hK50⟩ := WT_obj hW id hb2
      obtain ⟨w50, hF50, y50, rfl, hl50, hh50⟩ := hK50.2 6 (.inl (0, 120)) rfl
      dsimp only at hl50 hh50
      refine J_get jf_X6_69 dX6_turnBack_50 hO50 hF50 ?_
      refine J_iconst (v := 1) dX6_turnBack_53 (by decide) ?_
      refine J_isub dX6_turnBack_54 ?_
      refine J_istore_n dX6_turnBack_55 rfl (by decide) ?_
      have L56 : ∀ (N : Nat) (V : jH) (i3 : Int32), WT V → jeff [.inr 1, .inl 6, .inl 34, .inl 35, .inl 36] V0 V → jis V (.inr 4) a0 → jis V (.inr 1) b2 → (i3.toInt + 2147483648).toNat < N → J tS mX6_turnBack d 56 [some (.ref a0), some (.int x1), some (.ref b2), some (.int i3)] [] V 0 0 (jPost [.inr 1, .inl 6, .inl 34, .inl 35, .inl 36] V0 rN) := by
        intro N
        induction N with
        | zero => intro V i3 hW he ha0 hb2  hm; exact absurd hm (Nat.not_lt_zero _)
        | succ N ih =>
          intro V i3 hW he ha0 hb2  hm
          have ih56 := ih
          refine J_iload_n dX6_turnBack_56 rfl ?_
          refine J_if_lt (tgt := 91) dX6_turnBack_57 (by decide) (fun c57 => ?_) (fun c57 => ?_)
          · refine J_aload_n dX6_turnBack_91 rfl ?_
            refine J_aload_n dX6_turnBack_92 rfl ?_
            obtain ⟨fs93, hO93, hK93⟩ := WT_obj hW id ha0
            obtain ⟨w93, hF93, b93, rfl, hb93⟩ := hK93.2 2 (.inr (some (.inr 1))) rfl
            refine J_get jf_X6_22 dX6_turnBack_93 hO93 hF93 ?_
            refine Jw_callV1 (q9 := (RX3, TX3, 7)) moX3_become jw_ml_X6_89 jw_im_X3_become jw_se_X3_become hb2 rfl rfl dX6_turnBack_96 (w_X3_become (d - 1) _ _ _ (by omega) hW  hb2 hb93 ) (by omega) (Nat.zero_le _) (Nat.zero_le _) (Nat.le_of_ble_eq_true rfl) (fun r96 V96 h96 => ?_)
            obtain ⟨hW, hx96, hr96⟩ := h96
            have he := he.trans (hx96.sub (jsub_of rfl))
            have ha0 := ha0.mono hx96.1
            have hb2 := hb2.mono hx96.1
            have hb93 := hb93.mono hx96.1
            have hO93 := hx96.2 _ _ hO93 (jnot_of rfl)
            have hK93 := hK93.mono hx96.1
            cases hr96
            refine J_aload_n dX6_turnBack_99 rfl ?_
            obtain ⟨fs100, hO100, hK100⟩ := WT_obj hW id hb2
            obtain ⟨w100, hF100, y100, rfl, hl100, hh100⟩ := hK100.2 6 (.inl (0, 120)) rfl
            dsimp only at hl100 hh100
            refine J_get jf_X6_69 dX6_turnBack_100 hO100 hF100 ?_
            exact J_ret (r := some (.int _)) dX6_turnBack_103 ⟨rfl, _, rfl, rfl⟩ (⟨hW, he, rN_of _⟩)
          · refine J_aload_n dX6_turnBack_60 rfl ?_
            obtain ⟨fs61, hO61, hK61⟩ := WT_obj hW id ha0
            obtain ⟨w61, hF61, b61, rfl, hb61⟩ := hK61.2 2 (.inr (some (.inr 1))) rfl
            refine J_get jf_X6_22 dX6_turnBack_61 hO61 hF61 ?_
            refine J_aload_n dX6_turnBack_64 rfl ?_
            obtain ⟨fs65, hO65, hK65⟩ := WT_obj hW id hb2
            obtain ⟨w65, hF65, y65, rfl, hl65, hh65⟩ := hK65.2 5 (.inl ((-2147483648), 2147483647)) rfl
            dsimp only at hl65 hh65
            refine J_get jf_X6_59 dX6_turnBack_65 hO65 hF65 ?_
            refine J_aload_n dX6_turnBack_68 rfl ?_
            refine J_iload_n dX6_turnBack_69 rfl ?_
            refine Jw_callV1 (q9 := (RX3, TX3, 7)) moX3_direction jw_ml_X6_81 jw_im_X3_direction jw_se_X3_direction hb2 rfl rfl dX6_turnBack_70 (w_X3_direction (d - 1) _ _ _ (by omega) hW  hb2 ) (by omega) (Nat.zero_le _) (Nat.zero_le _) (Nat.le_of_ble_eq_true rfl) (fun r70 V70 h70 => ?_)
            obtain ⟨⟨y70, rfl, hl70, hh70⟩, hE70⟩ := h70
            have hE70 := hE70.symm
            subst hE70
            refine J_callS2 moX0_opposite jw_ml_X6_103 jw_st_X0_opposite dX6_turnBack_73 (w_X0_opposite (d - 1) _ _ _ (by omega)    ) (by omega) (Nat.zero_le _) (Nat.zero_le _) (Nat.le_of_ble_eq_true rfl) (fun r73 V73 h73 => ?_)
            obtain ⟨⟨y73, rfl, hl73, hh73⟩, hE73⟩ := h73
            have hE73 := hE73.symm
            subst hE73
            refine Jw_callV1 (q9 := (RX3, TX3, 7)) moX3_lay jw_ml_X6_72 jw_im_X3_lay jw_se_X3_lay hb61 rfl rfl dX6_turnBack_76 (w_X3_lay (d - 1) _ _ _ (by omega) hW  hb61 ) (by omega) (Nat.zero_le _) (Nat.zero_le _) (Nat.le_of_ble_eq_true rfl) (fun r76 V76 h76 => ?_)
            obtain ⟨hW, hx76, hr76⟩ := h76
            have he := he.trans (hx76.sub (jsub_of rfl))
            have ha0 := ha0.mono hx76.1
            have hb2 := hb2.mono hx76.1
            have hb61 := hb61.mono hx76.1
            have hO61 := hx76.2 _ _ hO61 (jnot_of rfl)
            have hK61 := hK61.mono hx76.1
            obtain ⟨y76, rfl, hl76, hh76⟩ := hr76
            refine J_if_ne (tgt := 85) dX6_turnBack_79 (by decide) (fun c79 => ?_) (fun c79 => ?_)
            · refine J_iinc dX6_turnBack_85 rfl j_incm1 rfl (by decide) ?_
              refine J_goto (tgt := 56) dX6_turnBack_88 (by decide) ?_
              refine J.mask [true, true, true, true] ?_
              exact ih56 _ _ hW he ha0 hb2  (jdec_dn c57 (by assumption))
            · refine J_bipush (v := -3) dX6_turnBack_82 (by decide) ?_
              exact J_ret (r := some (.int _)) dX6_turnBack_84 ⟨rfl, _, rfl, rfl⟩ (⟨hW, he, rN_of _⟩)
      refine J.mask [true, true, true, true] ?_
      exact L56 _ _ _ hW he ha0 hb2  (Nat.lt_succ_self _)
    · refine J_aload_n dX6_turnBack_21 rfl ?_
      refine Jw_callV0 (q9 := (RX3, TX3, 7)) moX3_endX jw_ml_X6_93 jw_im_X3_endX jw_se_X3_endX hb2 rfl rfl dX6_turnBack_22 (w_X3_endX (d - 1) _ _ (by omega) hW  hb2 ) (by omega) (Nat.zero_le _) (Nat.zero_le _) (Nat.le_of_ble_eq_true rfl) (fun r22 V22 h22 => ?_)
      obtain ⟨⟨y22, rfl, hl22, hh22⟩, hE22⟩ := h22
      have hE22 := hE22.symm
      subst hE22
      refine J_aload_n dX6_turnBack_25 rfl ?_
      refine Jw_callV0 (q9 := (RX3, TX3, 7)) moX3_endY jw_ml_X6_97 jw_im_X3_endY jw_se_X3_endY hb2 rfl rfl dX6_turnBack_26 (w_X3_endY (d - 1) _ _ (by omega) hW  hb2 ) (by omega) (Nat.zero_le _) (Nat.zero_le _) (Nat.le_of_ble_eq_true rfl) (fun r26 V26 h26 => ?_)
      obtain ⟨⟨y26, rfl, hl26, hh26⟩, hE26⟩ := h26
      have hE26 := hE26.symm
      subst hE26
      refine J_callS2 moX0_isEven jw_ml_X6_100 jw_st_X0_isEven dX6_turnBack_29 (w_X0_isEven (d - 1) _ _ _ (by omega)    ) (by omega) (Nat.zero_le _) (Nat.zero_le _) (Nat.le_of_ble_eq_true rfl) (fun r29 V29 h29 => ?_)
      obtain ⟨⟨y29, rfl, hl29, hh29⟩, hE29⟩ := h29
      have hE29 := hE29.symm
      subst hE29
      refine J_if_ne (tgt := 38) dX6_turnBack_32 (by decide) (fun c32 => ?_) (fun c32 => ?_)
      · refine J_aload_n dX6_turnBack_38 rfl ?_
        obtain ⟨fs39, hO39, hK39⟩ := WT_obj hW id ha0
        obtain ⟨w39, hF39, b39, rfl, hb39⟩ := hK39.2 2 (.inr (some (.inr 1))) rfl
        refine J_get jf_X6_22 dX6_turnBack_39 hO39 hF39 ?_
        refine J_aload_n dX6_turnBack_42 rfl ?_
        refine J_get jf_X6_59 dX6_turnBack_43 hO14 hF14 ?_
        refine Jw_callV1 (q9 := (RX3, TX3, 7)) moX3_begin jw_ml_X6_52 jw_im_X3_begin jw_se_X3_begin hb39 rfl rfl dX6_turnBack_46 (w_X3_begin (d - 1) _ _ _ (by omega) hW  hb39 ) (by omega) (Nat.zero_le _) (Nat.zero_le _) (Nat.le_of_ble_eq_true rfl) (fun r46 V46 h46 => ?_)
        obtain ⟨hW, hx46, hr46⟩ := h46
        have he := he.trans (hx46.sub (jsub_of rfl))
        have ha0 := ha0.mono hx46.1
        have hb2 := hb2.mono hx46.1
        have hb39 := hb39.mono hx46.1
        have hO39 := hx46.2 _ _ hO39 (jnot_of rfl)
        have hK39 := hK39.mono hx46.1
        cases hr46
        refine J_aload_n dX6_turnBack_49 rfl ?_
        obtain ⟨fs50, hO50, hK50⟩ := WT_obj hW id hb2
        obtain ⟨w50, hF50, y50, rfl, hl50, hh50⟩ := hK50.2 6 (.inl (0, 120)) rfl
        dsimp only at hl50 hh50
        refine J_get jf_X6_69 dX6_turnBack_50 hO50 hF50 ?_
        refine J_iconst (v := 1) dX6_turnBack_53 (by decide) ?_
        refine J_isub dX6_turnBack_54 ?_
        refine J_istore_n dX6_turnBack_55 rfl (by decide) ?_
        have L56 : ∀ (N : Nat) (V : jH) (i3 : Int32), WT V → jeff [.inr 1, .inl 6, .inl 34, .inl 35, .inl 36] V0 V → jis V (.inr 4) a0 → jis V (.inr 1) b2 → (i3.toInt + 2147483648).toNat < N → J tS mX6_turnBack d 56 [some (.ref a0), some (.int x1), some (.ref b2), some (.int i3)] [] V 0 0 (jPost [.inr 1, .inl 6, .inl 34, .inl 35, .inl 36] V0 rN) := by
          intro N
          induction N with
          | zero => intro V i3 hW he ha0 hb2  hm; exact absurd hm (Nat.not_lt_zero _)
          | succ N ih =>
            intro V i3 hW he ha0 hb2  hm
            have ih56 := ih
            refine J_iload_n dX6_turnBack_56 rfl ?_
            refine J_if_lt (tgt := 91) dX6_turnBack_57 (by decide) (fun c57 => ?_) (fun c57 => ?_)
            · refine J_aload_n dX6_turnBack_91 rfl ?_
              refine J_aload_n dX6_turnBack_92 rfl ?_
              obtain ⟨fs93, hO93, hK93⟩ := WT_obj hW id ha0
              obtain ⟨w93, hF93, b93, rfl, hb93⟩ := hK93.2 2 (.inr (some (.inr 1))) rfl
              refine J_get jf_X6_22 dX6_turnBack_93 hO93 hF93 ?_
              refine Jw_callV1 (q9 := (RX3, TX3, 7)) moX3_become jw_ml_X6_89 jw_im_X3_become jw_se_X3_become hb2 rfl rfl dX6_turnBack_96 (w_X3_become (d - 1) _ _ _ (by omega) hW  hb2 hb93 ) (by omega) (Nat.zero_le _) (Nat.zero_le _) (Nat.le_of_ble_eq_true rfl) (fun r96 V96 h96 => ?_)
              obtain ⟨hW, hx96, hr96⟩ := h96
              have he := he.trans (hx96.sub (jsub_of rfl))
              have ha0 := ha0.mono hx96.1
              have hb2 := hb2.mono hx96.1
              have hb93 := hb93.mono hx96.1
              have hO93 := hx96.2 _ _ hO93 (jnot_of rfl)
              have hK93 := hK93.mono hx96.1
              cases hr96
              refine J_aload_n dX6_turnBack_99 rfl ?_
              obtain ⟨fs100, hO100, hK100⟩ := WT_obj hW id hb2
              obtain ⟨w100, hF100, y100, rfl, hl100, hh100⟩ := hK100.2 6 (.inl (0, 120)) rfl
              dsimp only at hl100 hh100
              refine J_get jf_X6_69 dX6_turnBack_100 hO100 hF100 ?_
              exact J_ret (r := some (.int _)) dX6_turnBack_103 ⟨rfl, _, rfl, rfl⟩ (⟨hW, he, rN_of _⟩)
            · refine J_aload_n dX6_turnBack_60 rfl ?_
              obtain ⟨fs61, hO61, hK61⟩ := WT_obj hW id ha0
              obtain ⟨w61, hF61, b61, rfl, hb61⟩ := hK61.2 2 (.inr (some (.inr 1))) rfl
              refine J_get jf_X6_22 dX6_turnBack_61 hO61 hF61 ?_
              refine J_aload_n dX6_turnBack_64 rfl ?_
              obtain ⟨fs65, hO65, hK65⟩ := WT_obj hW id hb2
              obtain ⟨w65, hF65, y65, rfl, hl65, hh65⟩ := hK65.2 5 (.inl ((-2147483648), 2147483647)) rfl
              dsimp only at hl65 hh65
              refine J_get jf_X6_59 dX6_turnBack_65 hO65 hF65 ?_
              refine J_aload_n dX6_turnBack_68 rfl ?_
              refine J_iload_n dX6_turnBack_69 rfl ?_
              refine Jw_callV1 (q9 := (RX3, TX3, 7)) moX3_direction jw_ml_X6_81 jw_im_X3_direction jw_se_X3_direction hb2 rfl rfl dX6_turnBack_70 (w_X3_direction (d - 1) _ _ _ (by omega) hW  hb2 ) (by omega) (Nat.zero_le _) (Nat.zero_le _) (Nat.le_of_ble_eq_true rfl) (fun r70 V70 h70 => ?_)
              obtain ⟨⟨y70, rfl, hl70, hh70⟩, hE70⟩ := h70
              have hE70 := hE70.symm
              subst hE70
              refine J_callS2 moX0_opposite jw_ml_X6_103 jw_st_X0_opposite dX6_turnBack_73 (w_X0_opposite (d - 1) _ _ _ (by omega)    ) (by omega) (Nat.zero_le _) (Nat.zero_le _) (Nat.le_of_ble_eq_true rfl) (fun r73 V73 h73 => ?_)
              obtain ⟨⟨y73, rfl, hl73, hh73⟩, hE73⟩ := h73
              have hE73 := hE73.symm
              subst hE73
              refine Jw_callV1 (q9 := (RX3, TX3, 7)) moX3_lay jw_ml_X6_72 jw_im_X3_lay jw_se_X3_lay hb61 rfl rfl dX6_turnBack_76 (w_X3_lay (d - 1) _ _ _ (by omega) hW  hb61 ) (by omega) (Nat.zero_le _) (Nat.zero_le _) (Nat.le_of_ble_eq_true rfl) (fun r76 V76 h76 => ?_)
              obtain ⟨hW, hx76, hr76⟩ := h76
              have he := he.trans (hx76.sub (jsub_of rfl))
              have ha0 := ha0.mono hx76.1
              have hb2 := hb2.mono hx76.1
              have hb61 := hb61.mono hx76.1
              have hO61 := hx76.2 _ _ hO61 (jnot_of rfl)
              have hK61 := hK61.mono hx76.1
              obtain ⟨y76, rfl, hl76, hh76⟩ := hr76
              refine J_if_ne (tgt := 85) dX6_turnBack_79 (by decide) (fun c79 => ?_) (fun c79 => ?_)
              · refine J_iinc dX6_turnBack_85 rfl j_incm1 rfl (by decide) ?_
                refine J_goto (tgt := 56) dX6_turnBack_88 (by decide) ?_
                refine J.mask [true, true, true, true] ?_
                exact ih56 _ _ hW he ha0 hb2  (jdec_dn c57 (by assumption))
              · refine J_bipush (v := -3) dX6_turnBack_82 (by decide) ?_
                exact J_ret (r := some (.int _)) dX6_turnBack_84 ⟨rfl, _, rfl, rfl⟩ (⟨hW, he, rN_of _⟩)
        refine J.mask [true, true, true, true] ?_
        exact L56 _ _ _ hW he ha0 hb2  (Nat.lt_succ_self _)
      · refine J_bipush (v := -3) dX6_turnBack_35 (by decide) ?_
        exact J_ret (r := some (.int _)) dX6_turnBack_37 ⟨rfl, _, rfl, rfl⟩ (⟨hW, he, rN_of _⟩)
set_option maxRecDepth 100000 in
set_option maxHeartbeats 4000000 in
theorem w_X6_stepAt {tS : jTS} (d : Nat) (V0 : jH) (a0 : Nat) (x1 : Int32) (x2 : Int32)  (hd : 2 ≤ d) (hW : WT V0) (ha0 : jis V0 (.inr 4) a0)  : jTot tS mX6_stepAt d [.ref a0, .int x1, .int x2] V0 0 0 (fun r V => rN r V ∧ V = V0) := by
  refine jTot.of_J [some (.ref a0), some (.int x1), some (.int x2), none] moX6_stepAt (Nat.le_of_ble_eq_true rfl) rfl ?_
  have he : jeff [] V0 V0 := jeff.refl _ _
  refine J_aload_n dX6_stepAt_0 rfl ?_
  refine J_iload_n dX6_stepAt_1 rfl ?_
  refine Jw_callV1 (q9 := (RX6, TX6, 7)) moX6_rowOf jw_ml_X6_55 jw_im_X6_rowOf jw_se_X6_rowOf ha0 rfl rfl dX6_stepAt_2 (w_X6_rowOf (d - 1) _ _ _ (by omega) hW  ha0 ) (by omega) (Nat.zero_le _) (Nat.zero_le _) (Nat.le_of_ble_eq_true rfl) (fun r2 V2 h2 => ?_)
  obtain ⟨hr2, hE2⟩ := h2
  have hE2 := hE2.symm
  subst hE2
  rcases hr2 with rfl | ⟨b2, rfl, hb2⟩
  · refine J_astore_nN dX6_stepAt_5 rfl (by decide) ?_
    refine J_aload_nN dX6_stepAt_6 rfl ?_
    refine J_ifnullN (tgt := 14) dX6_stepAt_7 (by decide) ?_
    refine J_bipush (v := -2) dX6_stepAt_14 (by decide) ?_
    exact J_ret (r := some (.int _)) dX6_stepAt_16 ⟨rfl, _, rfl, rfl⟩ (⟨rN_of _, rfl⟩)
  · refine J_astore_n dX6_stepAt_5 rfl (by decide) ?_
    refine J_aload_n dX6_stepAt_6 rfl ?_
    refine J_ifnull dX6_stepAt_7 ?_
    refine J_iload_n dX6_stepAt_10 rfl ?_
    refine J_if_ge (tgt := 17) dX6_stepAt_11 (by decide) (fun c11 => ?_) (fun c11 => ?_)
    · refine J_iload_n dX6_stepAt_17 rfl ?_
      refine J_aload_n dX6_stepAt_18 rfl ?_
      obtain ⟨fs19, hO19, hK19⟩ := WT_obj hW id hb2
      obtain ⟨w19, hF19, y19, rfl, hl19, hh19⟩ := hK19.2 6 (.inl (0, 120)) rfl
      dsimp only at hl19 hh19
      refine J_get jf_X6_69 dX6_stepAt_19 hO19 hF19 ?_
      refine J_icmp_ge (tgt := 33) dX6_stepAt_22 (by decide) (fun c22 => ?_) (fun c22 => ?_)
      · refine J_iconst (v := -1) dX6_stepAt_33 (by decide) ?_
        exact J_ret (r := some (.int _)) dX6_stepAt_34 ⟨rfl, _, rfl, rfl⟩ (⟨rN_of _, rfl⟩)
      · refine J_aload_n dX6_stepAt_25 rfl ?_
        refine J_iload_n dX6_stepAt_26 rfl ?_
        refine Jw_callV1 (q9 := (RX3, TX3, 7)) moX3_direction jw_ml_X6_81 jw_im_X3_direction jw_se_X3_direction hb2 rfl rfl dX6_stepAt_27 (w_X3_direction (d - 1) _ _ _ (by omega) hW  hb2 ) (by omega) (Nat.zero_le _) (Nat.zero_le _) (Nat.le_of_ble_eq_true rfl) (fun r27 V27 h27 => ?_)
        obtain ⟨⟨y27, rfl, hl27, hh27⟩, hE27⟩ := h27
        have hE27 := hE27.symm
        subst hE27
        refine J_goto (tgt := 34) dX6_stepAt_30 (by decide) ?_
        exact J_ret (r := some (.int _)) dX6_stepAt_34 ⟨rfl, _, rfl, rfl⟩ (⟨rN_of _, rfl⟩)
    · refine J_bipush (v := -2) dX6_stepAt_14 (by decide) ?_
      exact J_ret (r := some (.int _)) dX6_stepAt_16 ⟨rfl, _, rfl, rfl⟩ (⟨rN_of _, rfl⟩)
set_option maxRecDepth 100000 in
set_option maxHeartbeats 4000000 in
theorem w_X6_place {tS : jTS} (d : Nat) (V0 : jH) (a0 : Nat) (x1 : Int32) (x2 : Int32) (x3 : Int32)  (hd : 1 ≤ d) (hW : WT V0) (ha0 : jis V0 (.inr 4) a0)  : jTot tS mX6_place d [.ref a0, .int x1, .int x2, .int x3] V0 0 0 (fun r V => rN r V ∧ V = V0) := by
  refine jTot.of_J [some (.ref a0), some (.int x1), some (.int x2), some (.int x3), none] moX6_place (Nat.le_of_ble_eq_true rfl) rfl ?_
  have he : jeff [] V0 V0 := jeff.refl _ _
  refine J_aload_n dX6_place_0 rfl ?_
  refine J_iload_n dX6_place_1 rfl ?_
  refine Jw_callV1 (q9 := (RX6, TX6, 7)) moX6_rowOf jw_ml_X6_55 jw_im_X6_rowOf jw_se_X6_rowOf ha0 rfl rfl dX6_place_2 (w_X6_rowOf (d - 1) _ _ _ (by omega) hW  ha0 ) (by omega) (Nat.zero_le _) (Nat.zero_le _) (Nat.le_of_ble_eq_true rfl) (fun r2 V2 h2 => ?_)
  obtain ⟨hr2, hE2⟩ := h2
  have hE2 := hE2.symm
  subst hE2
  rcases hr2 with rfl | ⟨b2, rfl, hb2⟩
  · refine J_astoreN dX6_place_5 rfl (by decide) ?_
    refine J_aloadN dX6_place_7 rfl ?_
    refine J_ifnullN (tgt := 25) dX6_place_9 (by decide) ?_
    refine J_sipush (v := -1000) dX6_place_25 (by decide) ?_
    exact J_ret (r := some (.int _)) dX6_place_28 ⟨rfl, _, rfl, rfl⟩ (⟨rN_of _, rfl⟩)
  · refine J_astore dX6_place_5 rfl (by decide) ?_
    refine J_aload dX6_place_7 rfl ?_
    refine J_ifnull dX6_place_9 ?_
    refine J_iload_n dX6_place_12 rfl ?_
    refine J_if_lt (tgt := 25) dX6_place_13 (by decide) (fun c13 => ?_) (fun c13 => ?_)
    · refine J_sipush (v := -1000) dX6_place_25 (by decide) ?_
      exact J_ret (r := some (.int _)) dX6_place_28 ⟨rfl, _, rfl, rfl⟩ (⟨rN_of _, rfl⟩)
    · refine J_iload_n dX6_place_16 rfl ?_
      refine J_aload dX6_place_17 rfl ?_
      obtain ⟨fs19, hO19, hK19⟩ := WT_obj hW id hb2
      obtain ⟨w19, hF19, y19, rfl, hl19, hh19⟩ := hK19.2 6 (.inl (0, 120)) rfl
      dsimp only at hl19 hh19
      refine J_get jf_X6_69 dX6_place_19 hO19 hF19 ?_
      refine J_icmp_le (tgt := 29) dX6_place_22 (by decide) (fun c22 => ?_) (fun c22 => ?_)
      · refine J_iload_n dX6_place_29 rfl ?_
        rcases jsw2 x3 with hx30 | hx30 | hx30 | hx30
        · rw [hx30]
          refine J_tableIn (tgt := 56) dX6_place_30 (by decide) (by decide) rfl (by decide) ?_
          refine J_aload dX6_place_56 rfl ?_
          obtain ⟨w58, hF58, b58, rfl, hb58⟩ := hK19.2 2 (.inr (some (.inl 34))) rfl
          refine J_get jf_X6_107 dX6_place_58 hO19 hF58 ?_
          refine J_iload_n dX6_place_61 rfl ?_
          refine J_callS2 moX6_cell jw_ml_X6_110 jw_st_X6_cell dX6_place_62 (w_X6_cell (d - 1) _ _ _ hW hb58 rfl rfl) (by omega) (Nat.zero_le _) (Nat.zero_le _) (Nat.le_of_ble_eq_true rfl) (fun r62 V62 h62 => ?_)
          obtain ⟨⟨y62, rfl, hl62, hh62⟩, hE62⟩ := h62
          have hE62 := hE62.symm
          subst hE62
          exact J_ret (r := some (.int _)) dX6_place_65 ⟨rfl, _, rfl, rfl⟩ (⟨rN_of _, rfl⟩)
        · rw [hx30]
          refine J_tableIn (tgt := 66) dX6_place_30 (by decide) (by decide) rfl (by decide) ?_
          refine J_aload dX6_place_66 rfl ?_
          obtain ⟨w68, hF68, b68, rfl, hb68⟩ := hK19.2 3 (.inr (some (.inl 35))) rfl
          refine J_get jf_X6_114 dX6_place_68 hO19 hF68 ?_
          refine J_iload_n dX6_place_71 rfl ?_
          refine J_callS2 moX6_cell jw_ml_X6_110 jw_st_X6_cell dX6_place_72 (w_X6_cell (d - 1) _ _ _ hW hb68 rfl rfl) (by omega) (Nat.zero_le _) (Nat.zero_le _) (Nat.le_of_ble_eq_true rfl) (fun r72 V72 h72 => ?_)
          obtain ⟨⟨y72, rfl, hl72, hh72⟩, hE72⟩ := h72
          have hE72 := hE72.symm
          subst hE72
          exact J_ret (r := some (.int _)) dX6_place_75 ⟨rfl, _, rfl, rfl⟩ (⟨rN_of _, rfl⟩)
        · rw [hx30]
          refine J_tableIn (tgt := 76) dX6_place_30 (by decide) (by decide) rfl (by decide) ?_
          refine J_aload dX6_place_76 rfl ?_
          obtain ⟨w78, hF78, b78, rfl, hb78⟩ := hK19.2 4 (.inr (some (.inl 36))) rfl
          refine J_get jf_X6_117 dX6_place_78 hO19 hF78 ?_
          refine J_iload_n dX6_place_81 rfl ?_
          refine J_callS2 moX6_cell jw_ml_X6_110 jw_st_X6_cell dX6_place_82 (w_X6_cell (d - 1) _ _ _ hW hb78 rfl rfl) (by omega) (Nat.zero_le _) (Nat.zero_le _) (Nat.le_of_ble_eq_true rfl) (fun r82 V82 h82 => ?_)
          obtain ⟨⟨y82, rfl, hl82, hh82⟩, hE82⟩ := h82
          have hE82 := hE82.symm
          subst hE82
          exact J_ret (r := some (.int _)) dX6_place_85 ⟨rfl, _, rfl, rfl⟩ (⟨rN_of _, rfl⟩)
        · refine J_tableOut (tgt := 86) dX6_place_30 hx30 (by decide) ?_
          refine J_sipush (v := -1000) dX6_place_86 (by decide) ?_
          exact J_ret (r := some (.int _)) dX6_place_89 ⟨rfl, _, rfl, rfl⟩ (⟨rN_of _, rfl⟩)
      · refine J_sipush (v := -1000) dX6_place_25 (by decide) ?_
        exact J_ret (r := some (.int _)) dX6_place_28 ⟨rfl, _, rfl, rfl⟩ (⟨rN_of _, rfl⟩)
set_option maxRecDepth 100000 in
set_option maxHeartbeats 4000000 in
theorem w_X6_about {tS : jTS} (d : Nat) (V0 : jH) (a0 : Nat) (x1 : Int32) (x2 : Int32)  (hd : 4 ≤ d) (hW : WT V0) (ha0 : jis V0 (.inr 4) a0)  : jTot tS mX6_about d [.ref a0, .int x1, .int x2] V0 0 0 (fun r V => rN r V ∧ V = V0) := by
  refine jTot.of_J [some (.ref a0), some (.int x1), some (.int x2), none] moX6_about (Nat.le_of_ble_eq_true rfl) rfl ?_
  have he : jeff [] V0 V0 := jeff.refl _ _
  refine J_aload_n dX6_about_0 rfl ?_
  refine J_iload_n dX6_about_1 rfl ?_
  refine Jw_callV1 (q9 := (RX6, TX6, 7)) moX6_rowOf jw_ml_X6_55 jw_im_X6_rowOf jw_se_X6_rowOf ha0 rfl rfl dX6_about_2 (w_X6_rowOf (d - 1) _ _ _ (by omega) hW  ha0 ) (by omega) (Nat.zero_le _) (Nat.zero_le _) (Nat.le_of_ble_eq_true rfl) (fun r2 V2 h2 => ?_)
  obtain ⟨hr2, hE2⟩ := h2
  have hE2 := hE2.symm
  subst hE2
  rcases hr2 with rfl | ⟨b2, rfl, hb2⟩
  · refine J_astore_nN dX6_about_5 rfl (by decide) ?_
    refine J_aload_nN dX6_about_6 rfl ?_
    refine J_ifnonnullN dX6_about_7 ?_
    refine J_bipush (v := -2) dX6_about_10 (by decide) ?_
    exact J_ret (r := some (.int _)) dX6_about_12 ⟨rfl, _, rfl, rfl⟩ (⟨rN_of _, rfl⟩)
  · refine J_astore_n dX6_about_5 rfl (by decide) ?_
    refine J_aload_n dX6_about_6 rfl ?_
    refine J_ifnonnull (tgt := 13) dX6_about_7 (by decide) ?_
    refine J_iload_n dX6_about_13 rfl ?_
    rcases jsw7 x2 with hx14 | hx14 | hx14 | hx14 | hx14 | hx14 | hx14 | hx14 | hx14
    · rw [hx14]
      refine J_tableIn (tgt := 60) dX6_about_14 (by decide) (by decide) rfl (by decide) ?_
      refine J_aload_n dX6_about_60 rfl ?_
      obtain ⟨fs61, hO61, hK61⟩ := WT_obj hW id hb2
      obtain ⟨w61, hF61, y61, rfl, hl61, hh61⟩ := hK61.2 5 (.inl ((-2147483648), 2147483647)) rfl
      dsimp only at hl61 hh61
      refine J_get jf_X6_59 dX6_about_61 hO61 hF61 ?_
      exact J_ret (r := some (.int _)) dX6_about_64 ⟨rfl, _, rfl, rfl⟩ (⟨rN_of _, rfl⟩)
    · rw [hx14]
      refine J_tableIn (tgt := 65) dX6_about_14 (by decide) (by decide) rfl (by decide) ?_
      refine J_aload_n dX6_about_65 rfl ?_
      obtain ⟨fs66, hO66, hK66⟩ := WT_obj hW id hb2
      obtain ⟨w66, hF66, y66, rfl, hl66, hh66⟩ := hK66.2 6 (.inl (0, 120)) rfl
      dsimp only at hl66 hh66
      refine J_get jf_X6_69 dX6_about_66 hO66 hF66 ?_
      exact J_ret (r := some (.int _)) dX6_about_69 ⟨rfl, _, rfl, rfl⟩ (⟨rN_of _, rfl⟩)
    · rw [hx14]
      refine J_tableIn (tgt := 70) dX6_about_14 (by decide) (by decide) rfl (by decide) ?_
      refine J_aload_n dX6_about_70 rfl ?_
      obtain ⟨fs71, hO71, hK71⟩ := WT_obj hW id hb2
      obtain ⟨w71, hF71, y71, rfl, hl71, hh71⟩ := hK71.2 5 (.inl ((-2147483648), 2147483647)) rfl
      dsimp only at hl71 hh71
      refine J_get jf_X6_59 dX6_about_71 hO71 hF71 ?_
      refine J_aload_n dX6_about_74 rfl ?_
      refine Jw_callV0 (q9 := (RX3, TX3, 7)) moX3_endX jw_ml_X6_93 jw_im_X3_endX jw_se_X3_endX hb2 rfl rfl dX6_about_75 (w_X3_endX (d - 1) _ _ (by omega) hW  hb2 ) (by omega) (Nat.zero_le _) (Nat.zero_le _) (Nat.le_of_ble_eq_true rfl) (fun r75 V75 h75 => ?_)
      obtain ⟨⟨y75, rfl, hl75, hh75⟩, hE75⟩ := h75
      have hE75 := hE75.symm
      subst hE75
      refine J_aload_n dX6_about_78 rfl ?_
      refine Jw_callV0 (q9 := (RX3, TX3, 7)) moX3_endY jw_ml_X6_97 jw_im_X3_endY jw_se_X3_endY hb2 rfl rfl dX6_about_79 (w_X3_endY (d - 1) _ _ (by omega) hW  hb2 ) (by omega) (Nat.zero_le _) (Nat.zero_le _) (Nat.le_of_ble_eq_true rfl) (fun r79 V79 h79 => ?_)
      obtain ⟨⟨y79, rfl, hl79, hh79⟩, hE79⟩ := h79
      have hE79 := hE79.symm
      subst hE79
      refine J_aload_n dX6_about_82 rfl ?_
      refine Jw_callV0 (q9 := (RX3, TX3, 7)) moX3_endZ jw_ml_X6_120 jw_im_X3_endZ jw_se_X3_endZ hb2 rfl rfl dX6_about_83 (w_X3_endZ (d - 1) _ _ (by omega) hW  hb2 ) (by omega) (Nat.zero_le _) (Nat.zero_le _) (Nat.le_of_ble_eq_true rfl) (fun r83 V83 h83 => ?_)
      obtain ⟨⟨y83, rfl, hl83, hh83⟩, hE83⟩ := h83
      have hE83 := hE83.symm
      subst hE83
      refine J_callS4 moX0_square jw_ml_X6_123 jw_st_X0_square dX6_about_86 (w_X0_square (d - 1) _ _ _ _ _ (by omega)    ) (by omega) (Nat.zero_le _) (Nat.zero_le _) (Nat.le_of_ble_eq_true rfl) (fun r86 V86 h86 => ?_)
      obtain ⟨⟨y86, rfl, hl86, hh86⟩, hE86⟩ := h86
      have hE86 := hE86.symm
      subst hE86
      exact J_ret (r := some (.int _)) dX6_about_89 ⟨rfl, _, rfl, rfl⟩ (⟨rN_of _, rfl⟩)
    · rw [hx14]
      refine J_tableIn (tgt := 90) dX6_about_14 (by decide) (by decide) rfl (by decide) ?_
      refine J_aload_n dX6_about_90 rfl ?_
      refine Jw_callV0 (q9 := (RX3, TX3, 7)) moX3_isRing jw_ml_X6_127 jw_im_X3_isRing jw_se_X3_isRing hb2 rfl rfl dX6_about_91 (w_X3_isRing (d - 1) _ _ (by omega) hW  hb2 ) (by omega) (Nat.zero_le _) (Nat.zero_le _) (Nat.le_of_ble_eq_true rfl) (fun r91 V91 h91 => ?_)
      obtain ⟨⟨y91, rfl, hl91, hh91⟩, hE91⟩ := h91
      have hE91 := hE91.symm
      subst hE91
      refine J_if_eq (tgt := 101) dX6_about_94 (by decide) (fun c94 => ?_) (fun c94 => ?_)
      · refine J_iconst (v := 0) dX6_about_101 (by decide) ?_
        exact J_ret (r := some (.int _)) dX6_about_102 ⟨rfl, _, rfl, rfl⟩ (⟨rN_of _, rfl⟩)
      · refine J_iconst (v := 1) dX6_about_97 (by decide) ?_
        refine J_goto (tgt := 102) dX6_about_98 (by decide) ?_
        exact J_ret (r := some (.int _)) dX6_about_102 ⟨rfl, _, rfl, rfl⟩ (⟨rN_of _, rfl⟩)
    · rw [hx14]
      refine J_tableIn (tgt := 103) dX6_about_14 (by decide) (by decide) rfl (by decide) ?_
      refine J_aload_n dX6_about_103 rfl ?_
      refine Jw_callV0 (q9 := (RX3, TX3, 7)) moX3_isRing jw_ml_X6_127 jw_im_X3_isRing jw_se_X3_isRing hb2 rfl rfl dX6_about_104 (w_X3_isRing (d - 1) _ _ (by omega) hW  hb2 ) (by omega) (Nat.zero_le _) (Nat.zero_le _) (Nat.le_of_ble_eq_true rfl) (fun r104 V104 h104 => ?_)
      obtain ⟨⟨y104, rfl, hl104, hh104⟩, hE104⟩ := h104
      have hE104 := hE104.symm
      subst hE104
      refine J_if_eq (tgt := 125) dX6_about_107 (by decide) (fun c107 => ?_) (fun c107 => ?_)
      · refine J_iconst (v := -1) dX6_about_125 (by decide) ?_
        exact J_ret (r := some (.int _)) dX6_about_126 ⟨rfl, _, rfl, rfl⟩ (⟨rN_of _, rfl⟩)
      · refine J_aload_n dX6_about_110 rfl ?_
        obtain ⟨fs111, hO111, hK111⟩ := WT_obj hW id hb2
        obtain ⟨w111, hF111, y111, rfl, hl111, hh111⟩ := hK111.2 5 (.inl ((-2147483648), 2147483647)) rfl
        dsimp only at hl111 hh111
        refine J_get jf_X6_59 dX6_about_111 hO111 hF111 ?_
        refine J_iconst (v := 3) dX6_about_114 (by decide) ?_
        refine J_icmp_eq (tgt := 125) dX6_about_115 (by decide) (fun c115 => ?_) (fun c115 => ?_)
        · refine J_iconst (v := -1) dX6_about_125 (by decide) ?_
          exact J_ret (r := some (.int _)) dX6_about_126 ⟨rfl, _, rfl, rfl⟩ (⟨rN_of _, rfl⟩)
        · refine J_aload_n dX6_about_118 rfl ?_
          refine Jw_callV0 (q9 := (RX3, TX3, 7)) moX3_twiceArea jw_ml_X6_131 jw_im_X3_twiceArea jw_se_X3_twiceArea hb2 rfl rfl dX6_about_119 (w_X3_twiceArea (d - 1) _ _ (by omega) hW  hb2 ) (by omega) (Nat.zero_le _) (Nat.zero_le _) (Nat.le_of_ble_eq_true rfl) (fun r119 V119 h119 => ?_)
          obtain ⟨⟨y119, rfl, hl119, hh119⟩, hE119⟩ := h119
          have hE119 := hE119.symm
          subst hE119
          refine J_goto (tgt := 126) dX6_about_122 (by decide) ?_
          exact J_ret (r := some (.int _)) dX6_about_126 ⟨rfl, _, rfl, rfl⟩ (⟨rN_of _, rfl⟩)
    · rw [hx14]
      refine J_tableIn (tgt := 127) dX6_about_14 (by decide) (by decide) rfl (by decide) ?_
      refine J_aload_n dX6_about_127 rfl ?_
      refine Jw_callV0 (q9 := (RX3, TX3, 7)) moX3_bends jw_ml_X6_134 jw_im_X3_bends jw_se_X3_bends hb2 rfl rfl dX6_about_128 (w_X3_bends (d - 1) _ _ (by omega) hW  hb2 ) (by omega) (Nat.zero_le _) (Nat.zero_le _) (Nat.le_of_ble_eq_true rfl) (fun r128 V128 h128 => ?_)
      obtain ⟨⟨y128, rfl, hl128, hh128⟩, hE128⟩ := h128
      have hE128 := hE128.symm
      subst hE128
      exact J_ret (r := some (.int _)) dX6_about_131 ⟨rfl, _, rfl, rfl⟩ (⟨rN_of _, rfl⟩)
    · rw [hx14]
      refine J_tableIn (tgt := 132) dX6_about_14 (by decide) (by decide) rfl (by decide) ?_
      refine J_aload_n dX6_about_132 rfl ?_
      refine Jw_callV0 (q9 := (RX3, TX3, 7)) moX3_isBridge jw_ml_X6_137 jw_im_X3_isBridge jw_se_X3_isBridge hb2 rfl rfl dX6_about_133 (w_X3_isBridge (d - 1) _ _ (by omega) hW  hb2 ) (by omega) (Nat.zero_le _) (Nat.zero_le _) (Nat.le_of_ble_eq_true rfl) (fun r133 V133 h133 => ?_)
      obtain ⟨⟨y133, rfl, hl133, hh133⟩, hE133⟩ := h133
      have hE133 := hE133.symm
      subst hE133
      refine J_if_eq (tgt := 143) dX6_about_136 (by decide) (fun c136 => ?_) (fun c136 => ?_)
      · refine J_iconst (v := 0) dX6_about_143 (by decide) ?_
        exact J_ret (r := some (.int _)) dX6_about_144 ⟨rfl, _, rfl, rfl⟩ (⟨rN_of _, rfl⟩)
      · refine J_iconst (v := 1) dX6_about_139 (by decide) ?_
        refine J_goto (tgt := 144) dX6_about_140 (by decide) ?_
        exact J_ret (r := some (.int _)) dX6_about_144 ⟨rfl, _, rfl, rfl⟩ (⟨rN_of _, rfl⟩)
    · rw [hx14]
      refine J_tableIn (tgt := 145) dX6_about_14 (by decide) (by decide) rfl (by decide) ?_
      refine J_aload_n dX6_about_145 rfl ?_
      refine Jw_callV0 (q9 := (RX3, TX3, 7)) moX3_leadsOn jw_ml_X6_140 jw_im_X3_leadsOn jw_se_X3_leadsOn hb2 rfl rfl dX6_about_146 (w_X3_leadsOn (d - 1) _ _ (by omega) hW  hb2 ) (by omega) (Nat.zero_le _) (Nat.zero_le _) (Nat.le_of_ble_eq_true rfl) (fun r146 V146 h146 => ?_)
      obtain ⟨⟨y146, rfl, hl146, hh146⟩, hE146⟩ := h146
      have hE146 := hE146.symm
      subst hE146
      exact J_ret (r := some (.int _)) dX6_about_149 ⟨rfl, _, rfl, rfl⟩ (⟨rN_of _, rfl⟩)
    · refine J_tableOut (tgt := 150) dX6_about_14 hx14 (by decide) ?_
      refine J_bipush (v := -2) dX6_about_150 (by decide) ?_
      exact J_ret (r := some (.int _)) dX6_about_152 ⟨rfl, _, rfl, rfl⟩ (⟨rN_of _, rfl⟩)
set_option maxRecDepth 100000 in
set_option maxHeartbeats 4000000 in
theorem w_X6_form {tS : jTS} (d : Nat) (V0 : jH) (a0 : Nat) (x1 : Int32) (x2 : Int32)  (hd : 6 ≤ d) (hW : WT V0) (ha0 : jis V0 (.inr 4) a0)  : jTot tS mX6_form d [.ref a0, .int x1, .int x2] V0 0 0 (jPost [.inl 7] V0 rN) := by
  refine jTot.of_J [some (.ref a0), some (.int x1), some (.int x2), none] moX6_form (Nat.le_of_ble_eq_true rfl) rfl ?_
  have he : jeff [.inl 7] V0 V0 := jeff.refl _ _
  refine J_aload_n dX6_form_0 rfl ?_
  refine J_iload_n dX6_form_1 rfl ?_
  refine Jw_callV1 (q9 := (RX6, TX6, 7)) moX6_rowOf jw_ml_X6_55 jw_im_X6_rowOf jw_se_X6_rowOf ha0 rfl rfl dX6_form_2 (w_X6_rowOf (d - 1) _ _ _ (by omega) hW  ha0 ) (by omega) (Nat.zero_le _) (Nat.zero_le _) (Nat.le_of_ble_eq_true rfl) (fun r2 V2 h2 => ?_)
  obtain ⟨hr2, hE2⟩ := h2
  have hE2 := hE2.symm
  subst hE2
  rcases hr2 with rfl | ⟨b2, rfl, hb2⟩
  · refine J_astore_nN dX6_form_5 rfl (by decide) ?_
    refine J_aload_nN dX6_form_6 rfl ?_
    refine J_ifnullN (tgt := 14) dX6_form_7 (by decide) ?_
    refine J_bipush (v := -2) dX6_form_14 (by decide) ?_
    exact J_ret (r := some (.int _)) dX6_form_16 ⟨rfl, _, rfl, rfl⟩ (⟨hW, he, rN_of _⟩)
  · refine J_astore_n dX6_form_5 rfl (by decide) ?_
    refine J_aload_n dX6_form_6 rfl ?_
    refine J_ifnull dX6_form_7 ?_
    refine J_iload_n dX6_form_10 rfl ?_
    refine J_if_ge (tgt := 17) dX6_form_11 (by decide) (fun c11 => ?_) (fun c11 => ?_)
    · refine J_iload_n dX6_form_17 rfl ?_
      refine J_aload_n dX6_form_18 rfl ?_
      obtain ⟨fs19, hO19, hK19⟩ := WT_obj hW id hb2
      obtain ⟨w19, hF19, y19, rfl, hl19, hh19⟩ := hK19.2 6 (.inl (0, 120)) rfl
      dsimp only at hl19 hh19
      refine J_get jf_X6_69 dX6_form_19 hO19 hF19 ?_
      refine J_icmp_lt (tgt := 27) dX6_form_22 (by decide) (fun c22 => ?_) (fun c22 => ?_)
      · refine J_aload_n dX6_form_27 rfl ?_
        refine J_aload_n dX6_form_28 rfl ?_
        obtain ⟨fs29, hO29, hK29⟩ := WT_obj hW id ha0
        obtain ⟨w29, hF29, b29, rfl, hb29⟩ := hK29.2 3 (.inr (some (.inl 7))) rfl
        refine J_get jf_X6_26 dX6_form_29 hO29 hF29 ?_
        refine J_callS2 moX1_writeForm jw_ml_X6_143 jw_st_X1_writeForm dX6_form_32 (w_X1_writeForm (d - 1) _ _ _ (by omega) hW  hb2 hb29 ) (by omega) (Nat.zero_le _) (Nat.zero_le _) (Nat.le_of_ble_eq_true rfl) (fun r32 V32 h32 => ?_)
        obtain ⟨hW, hx32, hr32⟩ := h32
        have he := he.trans (hx32.sub (jsub_of rfl))
        have ha0 := ha0.mono hx32.1
        have hb2 := hb2.mono hx32.1
        have hb29 := hb29.mono hx32.1
        have hO19 := hx32.2 _ _ hO19 (jnot_of rfl)
        have hK19 := hK19.mono hx32.1
        have hO29 := hx32.2 _ _ hO29 (jnot_of rfl)
        have hK29 := hK29.mono hx32.1
        cases hr32
        refine J_aload_n dX6_form_35 rfl ?_
        refine J_get jf_X6_26 dX6_form_36 hO29 hF29 ?_
        refine J_iload_n dX6_form_39 rfl ?_
        refine J_callS2 moX6_cell jw_ml_X6_110 jw_st_X6_cell dX6_form_40 (w_X6_cell (d - 1) _ _ _ hW hb29 rfl rfl) (by omega) (Nat.zero_le _) (Nat.zero_le _) (Nat.le_of_ble_eq_true rfl) (fun r40 V40 h40 => ?_)
        obtain ⟨⟨y40, rfl, hl40, hh40⟩, hE40⟩ := h40
        have hE40 := hE40.symm
        subst hE40
        exact J_ret (r := some (.int _)) dX6_form_43 ⟨rfl, _, rfl, rfl⟩ (⟨hW, he, rN_of _⟩)
      · refine J_iconst (v := -1) dX6_form_25 (by decide) ?_
        exact J_ret (r := some (.int _)) dX6_form_26 ⟨rfl, _, rfl, rfl⟩ (⟨hW, he, rN_of _⟩)
    · refine J_bipush (v := -2) dX6_form_14 (by decide) ?_
      exact J_ret (r := some (.int _)) dX6_form_16 ⟨rfl, _, rfl, rfl⟩ (⟨hW, he, rN_of _⟩)
set_option maxRecDepth 100000 in
set_option maxHeartbeats 4000000 in
theorem w_X6_alike {tS : jTS} (d : Nat) (V0 : jH) (a0 : Nat) (x1 : Int32) (x2 : Int32)  (hd : 6 ≤ d) (hW : WT V0) (ha0 : jis V0 (.inr 4) a0)  : jTot tS mX6_alike d [.ref a0, .int x1, .int x2] V0 0 0 (jPost [.inl 7] V0 rN) := by
  refine jTot.of_J [some (.ref a0), some (.int x1), some (.int x2), none, none, none] moX6_alike (Nat.le_of_ble_eq_true rfl) rfl ?_
  have he : jeff [.inl 7] V0 V0 := jeff.refl _ _
  refine J_aload_n dX6_alike_0 rfl ?_
  refine J_iload_n dX6_alike_1 rfl ?_
  refine Jw_callV1 (q9 := (RX6, TX6, 7)) moX6_rowOf jw_ml_X6_55 jw_im_X6_rowOf jw_se_X6_rowOf ha0 rfl rfl dX6_alike_2 (w_X6_rowOf (d - 1) _ _ _ (by omega) hW  ha0 ) (by omega) (Nat.zero_le _) (Nat.zero_le _) (Nat.le_of_ble_eq_true rfl) (fun r2 V2 h2 => ?_)
  obtain ⟨hr2, hE2⟩ := h2
  have hE2 := hE2.symm
  subst hE2
  rcases hr2 with rfl | ⟨b2, rfl, hb2⟩
  · refine J_astore_nN dX6_alike_5 rfl (by decide) ?_
    refine J_aload_n dX6_alike_6 rfl ?_
    refine J_iload_n dX6_alike_7 rfl ?_
    refine Jw_callV1 (q9 := (RX6, TX6, 7)) moX6_rowOf jw_ml_X6_55 jw_im_X6_rowOf jw_se_X6_rowOf ha0 rfl rfl dX6_alike_8 (w_X6_rowOf (d - 1) _ _ _ (by omega) hW  ha0 ) (by omega) (Nat.zero_le _) (Nat.zero_le _) (Nat.le_of_ble_eq_true rfl) (fun r8 V8 h8 => ?_)
    obtain ⟨hr8, hE8⟩ := h8
    have hE8 := hE8.symm
    subst hE8
    rcases hr8 with rfl | ⟨b8, rfl, hb8⟩
    · refine J_astoreN dX6_alike_11 rfl (by decide) ?_
      refine J_aload_nN dX6_alike_13 rfl ?_
      refine J_ifnullN (tgt := 22) dX6_alike_14 (by decide) ?_
      refine J_bipush (v := -2) dX6_alike_22 (by decide) ?_
      exact J_ret (r := some (.int _)) dX6_alike_24 ⟨rfl, _, rfl, rfl⟩ (⟨hW, he, rN_of _⟩)
    · refine J_astore dX6_alike_11 rfl (by decide) ?_
      refine J_aload_nN dX6_alike_13 rfl ?_
      refine J_ifnullN (tgt := 22) dX6_alike_14 (by decide) ?_
      refine J_bipush (v := -2) dX6_alike_22 (by decide) ?_
      exact J_ret (r := some (.int _)) dX6_alike_24 ⟨rfl, _, rfl, rfl⟩ (⟨hW, he, rN_of _⟩)
  · refine J_astore_n dX6_alike_5 rfl (by decide) ?_
    refine J_aload_n dX6_alike_6 rfl ?_
    refine J_iload_n dX6_alike_7 rfl ?_
    refine Jw_callV1 (q9 := (RX6, TX6, 7)) moX6_rowOf jw_ml_X6_55 jw_im_X6_rowOf jw_se_X6_rowOf ha0 rfl rfl dX6_alike_8 (w_X6_rowOf (d - 1) _ _ _ (by omega) hW  ha0 ) (by omega) (Nat.zero_le _) (Nat.zero_le _) (Nat.le_of_ble_eq_true rfl) (fun r8 V8 h8 => ?_)
    obtain ⟨hr8, hE8⟩ := h8
    have hE8 := hE8.symm
    subst hE8
    rcases hr8 with rfl | ⟨b8, rfl, hb8⟩
    · refine J_astoreN dX6_alike_11 rfl (by decide) ?_
      refine J_aload_n dX6_alike_13 rfl ?_
      refine J_ifnull dX6_alike_14 ?_
      refine J_aloadN dX6_alike_17 rfl ?_
      refine J_ifnonnullN dX6_alike_19 ?_
      refine J_bipush (v := -2) dX6_alike_22 (by decide) ?_
      exact J_ret (r := some (.int _)) dX6_alike_24 ⟨rfl, _, rfl, rfl⟩ (⟨hW, he, rN_of _⟩)
    · refine J_astore dX6_alike_11 rfl (by decide) ?_
      refine J_aload_n dX6_alike_13 rfl ?_
      refine J_ifnull dX6_alike_14 ?_
      refine J_aload dX6_alike_17 rfl ?_
      refine J_ifnonnull (tgt := 25) dX6_alike_19 (by decide) ?_
      refine J_aload_n dX6_alike_25 rfl ?_
      obtain ⟨fs26, hO26, hK26⟩ := WT_obj hW id hb2
      obtain ⟨w26, hF26, y26, rfl, hl26, hh26⟩ := hK26.2 5 (.inl ((-2147483648), 2147483647)) rfl
      dsimp only at hl26 hh26
      refine J_get jf_X6_59 dX6_alike_26 hO26 hF26 ?_
      refine J_aload dX6_alike_29 rfl ?_
      obtain ⟨fs31, hO31, hK31⟩ := WT_obj hW id hb8
      obtain ⟨w31, hF31, y31, rfl, hl31, hh31⟩ := hK31.2 5 (.inl ((-2147483648), 2147483647)) rfl
      dsimp only at hl31 hh31
      refine J_get jf_X6_59 dX6_alike_31 hO31 hF31 ?_
      refine J_icmp_eq (tgt := 40) dX6_alike_34 (by decide) (fun c34 => ?_) (fun c34 => ?_)
      · refine J_aload_n dX6_alike_40 rfl ?_
        obtain ⟨w41, hF41, y41, rfl, hl41, hh41⟩ := hK26.2 6 (.inl (0, 120)) rfl
        dsimp only at hl41 hh41
        refine J_get jf_X6_69 dX6_alike_41 hO26 hF41 ?_
        refine J_aload dX6_alike_44 rfl ?_
        obtain ⟨w46, hF46, y46, rfl, hl46, hh46⟩ := hK31.2 6 (.inl (0, 120)) rfl
        dsimp only at hl46 hh46
        refine J_get jf_X6_69 dX6_alike_46 hO31 hF46 ?_
        refine J_icmp_eq (tgt := 54) dX6_alike_49 (by decide) (fun c49 => ?_) (fun c49 => ?_)
        · refine J_aload_n dX6_alike_54 rfl ?_
          refine J_aload_n dX6_alike_55 rfl ?_
          obtain ⟨fs56, hO56, hK56⟩ := WT_obj hW id ha0
          obtain ⟨w56, hF56, b56, rfl, hb56⟩ := hK56.2 3 (.inr (some (.inl 7))) rfl
          refine J_get jf_X6_26 dX6_alike_56 hO56 hF56 ?_
          refine J_callS2 moX1_writeForm jw_ml_X6_143 jw_st_X1_writeForm dX6_alike_59 (w_X1_writeForm (d - 1) _ _ _ (by omega) hW  hb2 hb56 ) (by omega) (Nat.zero_le _) (Nat.zero_le _) (Nat.le_of_ble_eq_true rfl) (fun r59 V59 h59 => ?_)
          obtain ⟨hW, hx59, hr59⟩ := h59
          have he := he.trans (hx59.sub (jsub_of rfl))
          have ha0 := ha0.mono hx59.1
          have hb2 := hb2.mono hx59.1
          have hb8 := hb8.mono hx59.1
          have hb56 := hb56.mono hx59.1
          have hO26 := hx59.2 _ _ hO26 (jnot_of rfl)
          have hK26 := hK26.mono hx59.1
          have hO31 := hx59.2 _ _ hO31 (jnot_of rfl)
          have hK31 := hK31.mono hx59.1
          have hO56 := hx59.2 _ _ hO56 (jnot_of rfl)
          have hK56 := hK56.mono hx59.1
          cases hr59
          refine J_aload dX6_alike_62 rfl ?_
          refine J_aload_n dX6_alike_64 rfl ?_
          obtain ⟨w65, hF65, b65, rfl, hb65⟩ := hK56.2 4 (.inr (some (.inl 7))) rfl
          refine J_get jf_X6_30 dX6_alike_65 hO56 hF65 ?_
          refine J_callS2 moX1_writeForm jw_ml_X6_143 jw_st_X1_writeForm dX6_alike_68 (w_X1_writeForm (d - 1) _ _ _ (by omega) hW  hb8 hb65 ) (by omega) (Nat.zero_le _) (Nat.zero_le _) (Nat.le_of_ble_eq_true rfl) (fun r68 V68 h68 => ?_)
          obtain ⟨hW, hx68, hr68⟩ := h68
          have he := he.trans (hx68.sub (jsub_of rfl))
          have ha0 := ha0.mono hx68.1
          have hb2 := hb2.mono hx68.1
          have hb8 := hb8.mono hx68.1
          have hb56 := hb56.mono hx68.1
          have hb65 := hb65.mono hx68.1
          have hO26 := hx68.2 _ _ hO26 (jnot_of rfl)
          have hK26 := hK26.mono hx68.1
          have hO31 := hx68.2 _ _ hO31 (jnot_of rfl)
          have hK31 := hK31.mono hx68.1
          have hO56 := hx68.2 _ _ hO56 (jnot_of rfl)
          have hK56 := hK56.mono hx68.1
          cases hr68
          refine J_iconst (v := 0) dX6_alike_71 (by decide) ?_
          refine J_istore dX6_alike_72 rfl (by decide) ?_
          have L74 : ∀ (N : Nat) (V : jH) (i5 : Int32), WT V → jeff [.inl 7] V0 V → jis V (.inr 4) a0 → jis V (.inr 1) b2 → jis V (.inr 1) b8 → (2147483648 - i5.toInt).toNat < N → J tS mX6_alike d 74 [some (.ref a0), some (.int x1), some (.int x2), some (.ref b2), some (.ref b8), some (.int i5)] [] V 0 0 (jPost [.inl 7] V0 rN) := by
            intro N
            induction N with
            | zero => intro V i5 hW he ha0 hb2 hb8  hm; exact absurd hm (Nat.not_lt_zero _)
            | succ N ih =>
              intro V i5 hW he ha0 hb2 hb8  hm
              have ih74 := ih
              refine J_iload dX6_alike_74 rfl ?_
              refine J_aload_n dX6_alike_76 rfl ?_
              obtain ⟨fs77, hO77, hK77⟩ := WT_obj hW id hb2
              obtain ⟨w77, hF77, y77, rfl, hl77, hh77⟩ := hK77.2 6 (.inl (0, 120)) rfl
              dsimp only at hl77 hh77
              refine J_get jf_X6_69 dX6_alike_77 hO77 hF77 ?_
              refine J_icmp_ge (tgt := 112) dX6_alike_80 (by decide) (fun c80 => ?_) (fun c80 => ?_)
              · refine J_iconst (v := 1) dX6_alike_112 (by decide) ?_
                exact J_ret (r := some (.int _)) dX6_alike_113 ⟨rfl, _, rfl, rfl⟩ (⟨hW, he, rN_of _⟩)
              · refine J_aload_n dX6_alike_83 rfl ?_
                obtain ⟨fs84, hO84, hK84⟩ := WT_obj hW id ha0
                obtain ⟨w84, hF84, b84, rfl, hb84⟩ := hK84.2 3 (.inr (some (.inl 7))) rfl
                refine J_get jf_X6_26 dX6_alike_84 hO84 hF84 ?_
                refine J_iload dX6_alike_87 rfl ?_
                refine J_callS2 moX6_cell jw_ml_X6_110 jw_st_X6_cell dX6_alike_89 (w_X6_cell (d - 1) _ _ _ hW hb84 rfl rfl) (by omega) (Nat.zero_le _) (Nat.zero_le _) (Nat.le_of_ble_eq_true rfl) (fun r89 V89 h89 => ?_)
                obtain ⟨⟨y89, rfl, hl89, hh89⟩, hE89⟩ := h89
                have hE89 := hE89.symm
                subst hE89
                refine J_aload_n dX6_alike_92 rfl ?_
                obtain ⟨w93, hF93, b93, rfl, hb93⟩ := hK84.2 4 (.inr (some (.inl 7))) rfl
                refine J_get jf_X6_30 dX6_alike_93 hO84 hF93 ?_
                refine J_iload dX6_alike_96 rfl ?_
                refine J_callS2 moX6_cell jw_ml_X6_110 jw_st_X6_cell dX6_alike_98 (w_X6_cell (d - 1) _ _ _ hW hb93 rfl rfl) (by omega) (Nat.zero_le _) (Nat.zero_le _) (Nat.le_of_ble_eq_true rfl) (fun r98 V98 h98 => ?_)
                obtain ⟨⟨y98, rfl, hl98, hh98⟩, hE98⟩ := h98
                have hE98 := hE98.symm
                subst hE98
                refine J_icmp_eq (tgt := 106) dX6_alike_101 (by decide) (fun c101 => ?_) (fun c101 => ?_)
                · refine J_iinc dX6_alike_106 rfl j_inc1 rfl (by decide) ?_
                  refine J_goto (tgt := 74) dX6_alike_109 (by decide) ?_
                  refine J.mask [true, true, true, true, true, true] ?_
                  exact ih74 _ _ hW he ha0 hb2 hb8  (jdec_up (Int32.not_le.mp c80) (by assumption))
                · refine J_iconst (v := 0) dX6_alike_104 (by decide) ?_
                  exact J_ret (r := some (.int _)) dX6_alike_105 ⟨rfl, _, rfl, rfl⟩ (⟨hW, he, rN_of _⟩)
          refine J.mask [true, true, true, true, true, true] ?_
          exact L74 _ _ _ hW he ha0 hb2 hb8  (Nat.lt_succ_self _)
        · refine J_iconst (v := 0) dX6_alike_52 (by decide) ?_
          exact J_ret (r := some (.int _)) dX6_alike_53 ⟨rfl, _, rfl, rfl⟩ (⟨hW, he, rN_of _⟩)
      · refine J_bipush (v := -3) dX6_alike_37 (by decide) ?_
        exact J_ret (r := some (.int _)) dX6_alike_39 ⟨rfl, _, rfl, rfl⟩ (⟨hW, he, rN_of _⟩)
set_option maxRecDepth 100000 in
set_option maxHeartbeats 4000000 in
theorem w_X6_board {tS : jTS} (d : Nat) (V0 : jH) (a0 : Nat) (x1 : Int32) (x2 : Int32)  (hd : 3 ≤ d) (hW : WT V0) (ha0 : jis V0 (.inr 4) a0)  : jTot tS mX6_board d [.ref a0, .int x1, .int x2] V0 0 0 (jPost [.inr 0] V0 rN) := by
  refine jTot.of_J [some (.ref a0), some (.int x1), some (.int x2)] moX6_board (Nat.le_of_ble_eq_true rfl) rfl ?_
  have he : jeff [.inr 0] V0 V0 := jeff.refl _ _
  refine J_iload_n dX6_board_0 rfl ?_
  refine J_iconst (v := 2) dX6_board_1 (by decide) ?_
  refine J_icmp_lt (tgt := 22) dX6_board_2 (by decide) (fun c2 => ?_) (fun c2 => ?_)
  · refine J_bipush (v := -2) dX6_board_22 (by decide) ?_
    exact J_ret (r := some (.int _)) dX6_board_24 ⟨rfl, _, rfl, rfl⟩ (⟨hW, he, rN_of _⟩)
  · refine J_iload_n dX6_board_5 rfl ?_
    refine J_bipush (v := 6) dX6_board_6 (by decide) ?_
    refine J_icmp_gt (tgt := 22) dX6_board_8 (by decide) (fun c8 => ?_) (fun c8 => ?_)
    · refine J_bipush (v := -2) dX6_board_22 (by decide) ?_
      exact J_ret (r := some (.int _)) dX6_board_24 ⟨rfl, _, rfl, rfl⟩ (⟨hW, he, rN_of _⟩)
    · refine J_iload_n dX6_board_11 rfl ?_
      refine J_iconst (v := 2) dX6_board_12 (by decide) ?_
      refine J_icmp_lt (tgt := 22) dX6_board_13 (by decide) (fun c13 => ?_) (fun c13 => ?_)
      · refine J_bipush (v := -2) dX6_board_22 (by decide) ?_
        exact J_ret (r := some (.int _)) dX6_board_24 ⟨rfl, _, rfl, rfl⟩ (⟨hW, he, rN_of _⟩)
      · refine J_iload_n dX6_board_16 rfl ?_
        refine J_bipush (v := 6) dX6_board_17 (by decide) ?_
        refine J_icmp_le (tgt := 25) dX6_board_19 (by decide) (fun c19 => ?_) (fun c19 => ?_)
        · refine J_aload_n dX6_board_25 rfl ?_
          obtain ⟨fs26, hO26, hK26⟩ := WT_obj hW id ha0
          obtain ⟨w26, hF26, b26, rfl, hb26⟩ := hK26.2 6 (.inr (some (.inr 0))) rfl
          refine J_get jf_X6_42 dX6_board_26 hO26 hF26 ?_
          refine J_iload_n dX6_board_29 rfl ?_
          refine J_iload_n dX6_board_30 rfl ?_
          refine Jw_callV2 (q9 := (RX2, TX2, 9)) moX2_lay jw_ml_X6_202 jw_im_X2_lay jw_se_X2_lay hb26 rfl rfl dX6_board_31 (w_X2_lay (d - 1) _ _ _ _ (by omega) hW id hb26 ) (by omega) (Nat.zero_le _) (Nat.zero_le _) (Nat.le_of_ble_eq_true rfl) (fun r31 V31 h31 => ?_)
          obtain ⟨hW, hx31, hr31⟩ := h31
          have he := he.trans (hx31.sub (jsub_of rfl))
          have ha0 := ha0.mono hx31.1
          have hb26 := hb26.mono hx31.1
          have hO26 := hx31.2 _ _ hO26 (jnot_of rfl)
          have hK26 := hK26.mono hx31.1
          cases hr31
          refine J_iconst (v := 1) dX6_board_34 (by decide) ?_
          exact J_ret (r := some (.int _)) dX6_board_35 ⟨rfl, _, rfl, rfl⟩ (⟨hW, he, rN_of _⟩)
        · refine J_bipush (v := -2) dX6_board_22 (by decide) ?_
          exact J_ret (r := some (.int _)) dX6_board_24 ⟨rfl, _, rfl, rfl⟩ (⟨hW, he, rN_of _⟩)
set_option maxRecDepth 100000 in
set_option maxHeartbeats 4000000 in
theorem w_X6_hole {tS : jTS} (d : Nat) (V0 : jH) (a0 : Nat) (x1 : Int32) (x2 : Int32) (x3 : Int32)  (hd : 3 ≤ d) (hW : WT V0) (ha0 : jis V0 (.inr 4) a0)  : jTot tS mX6_hole d [.ref a0, .int x1, .int x2, .int x3] V0 0 0 (jPost [.inr 0] V0 rN) := by
  refine jTot.of_J [some (.ref a0), some (.int x1), some (.int x2), some (.int x3)] moX6_hole (Nat.le_of_ble_eq_true rfl) rfl ?_
  have he : jeff [.inr 0] V0 V0 := jeff.refl _ _
  refine J_iload_n dX6_hole_0 rfl ?_
  refine J_if_lt (tgt := 30) dX6_hole_1 (by decide) (fun c1 => ?_) (fun c1 => ?_)
  · refine J_bipush (v := -2) dX6_hole_30 (by decide) ?_
    exact J_ret (r := some (.int _)) dX6_hole_32 ⟨rfl, _, rfl, rfl⟩ (⟨hW, he, rN_of _⟩)
  · refine J_iload_n dX6_hole_4 rfl ?_
    refine J_aload_n dX6_hole_5 rfl ?_
    obtain ⟨fs6, hO6, hK6⟩ := WT_obj hW id ha0
    obtain ⟨w6, hF6, b6, rfl, hb6⟩ := hK6.2 6 (.inr (some (.inr 0))) rfl
    refine J_get jf_X6_42 dX6_hole_6 hO6 hF6 ?_
    obtain ⟨fs9, hO9, hK9⟩ := WT_obj hW id hb6
    obtain ⟨w9, hF9, y9, rfl, hl9, hh9⟩ := hK9.2 1 (.inl ((-2147483648), 2147483647)) rfl
    dsimp only at hl9 hh9
    refine J_get jf_X6_205 dX6_hole_9 hO9 hF9 ?_
    refine J_icmp_ge (tgt := 30) dX6_hole_12 (by decide) (fun c12 => ?_) (fun c12 => ?_)
    · refine J_bipush (v := -2) dX6_hole_30 (by decide) ?_
      exact J_ret (r := some (.int _)) dX6_hole_32 ⟨rfl, _, rfl, rfl⟩ (⟨hW, he, rN_of _⟩)
    · refine J_iload_n dX6_hole_15 rfl ?_
      refine J_if_lt (tgt := 30) dX6_hole_16 (by decide) (fun c16 => ?_) (fun c16 => ?_)
      · refine J_bipush (v := -2) dX6_hole_30 (by decide) ?_
        exact J_ret (r := some (.int _)) dX6_hole_32 ⟨rfl, _, rfl, rfl⟩ (⟨hW, he, rN_of _⟩)
      · refine J_iload_n dX6_hole_19 rfl ?_
        refine J_aload_n dX6_hole_20 rfl ?_
        refine J_get jf_X6_42 dX6_hole_21 hO6 hF6 ?_
        obtain ⟨w24, hF24, y24, rfl, hl24, hh24⟩ := hK9.2 2 (.inl ((-2147483648), 2147483647)) rfl
        dsimp only at hl24 hh24
        refine J_get jf_X6_208 dX6_hole_24 hO9 hF24 ?_
        refine J_icmp_lt (tgt := 33) dX6_hole_27 (by decide) (fun c27 => ?_) (fun c27 => ?_)
        · refine J_aload_n dX6_hole_33 rfl ?_
          refine J_get jf_X6_42 dX6_hole_34 hO6 hF6 ?_
          refine J_iload_n dX6_hole_37 rfl ?_
          refine J_iload_n dX6_hole_38 rfl ?_
          refine Jw_callV2 (q9 := (RX2, TX2, 9)) moX2_isHole jw_ml_X6_211 jw_im_X2_isHole jw_se_X2_isHole hb6 rfl rfl dX6_hole_39 (w_X2_isHole (d - 1) _ _ _ _ (by omega) hW  hb6 ) (by omega) (Nat.zero_le _) (Nat.zero_le _) (Nat.le_of_ble_eq_true rfl) (fun r39 V39 h39 => ?_)
          obtain ⟨⟨y39, rfl, hl39, hh39⟩, hE39⟩ := h39
          have hE39 := hE39.symm
          subst hE39
          refine J_iload_n dX6_hole_42 rfl ?_
          refine J_icmp_eq (tgt := 58) dX6_hole_43 (by decide) (fun c43 => ?_) (fun c43 => ?_)
          · refine J_bipush (v := -3) dX6_hole_58 (by decide) ?_
            exact J_ret (r := some (.int _)) dX6_hole_60 ⟨rfl, _, rfl, rfl⟩ (⟨hW, he, rN_of _⟩)
          · refine J_aload_n dX6_hole_46 rfl ?_
            refine J_get jf_X6_42 dX6_hole_47 hO6 hF6 ?_
            refine J_iload_n dX6_hole_50 rfl ?_
            refine J_iload_n dX6_hole_51 rfl ?_
            refine Jw_callV2 (q9 := (RX2, TX2, 9)) moX2_isCorner jw_ml_X6_214 jw_im_X2_isCorner jw_se_X2_isCorner hb6 rfl rfl dX6_hole_52 (w_X2_isCorner (d - 1) _ _ _ _ (by omega) hW  hb6 ) (by omega) (Nat.zero_le _) (Nat.zero_le _) (Nat.le_of_ble_eq_true rfl) (fun r52 V52 h52 => ?_)
            obtain ⟨⟨y52, rfl, hl52, hh52⟩, hE52⟩ := h52
            have hE52 := hE52.symm
            subst hE52
            refine J_if_eq (tgt := 61) dX6_hole_55 (by decide) (fun c55 => ?_) (fun c55 => ?_)
            · refine J_aload_n dX6_hole_61 rfl ?_
              refine J_get jf_X6_42 dX6_hole_62 hO6 hF6 ?_
              refine J_iload_n dX6_hole_65 rfl ?_
              refine J_iload_n dX6_hole_66 rfl ?_
              refine Jw_callV2 (q9 := (RX2, TX2, 9)) moX2_turnOver jw_ml_X6_217 jw_im_X2_turnOver jw_se_X2_turnOver hb6 rfl rfl dX6_hole_67 (w_X2_turnOver (d - 1) _ _ _ _ (by omega) hW  hb6 ) (by omega) (Nat.zero_le _) (Nat.zero_le _) (Nat.le_of_ble_eq_true rfl) (fun r67 V67 h67 => ?_)
              obtain ⟨hW, hx67, hr67⟩ := h67
              have he := he.trans (hx67.sub (jsub_of rfl))
              have ha0 := ha0.mono hx67.1
              have hb6 := hb6.mono hx67.1
              have hO6 := hx67.2 _ _ hO6 (jnot_of rfl)
              have hK6 := hK6.mono hx67.1
              cases hr67
              refine J_iconst (v := 1) dX6_hole_70 (by decide) ?_
              exact J_ret (r := some (.int _)) dX6_hole_71 ⟨rfl, _, rfl, rfl⟩ (⟨hW, he, rN_of _⟩)
            · refine J_bipush (v := -3) dX6_hole_58 (by decide) ?_
              exact J_ret (r := some (.int _)) dX6_hole_60 ⟨rfl, _, rfl, rfl⟩ (⟨hW, he, rN_of _⟩)
        · refine J_bipush (v := -2) dX6_hole_30 (by decide) ?_
          exact J_ret (r := some (.int _)) dX6_hole_32 ⟨rfl, _, rfl, rfl⟩ (⟨hW, he, rN_of _⟩)
set_option maxRecDepth 100000 in
set_option maxHeartbeats 4000000 in
theorem w_X6_ways {tS : jTS} (d : Nat) (V0 : jH) (a0 : Nat) (x1 : Int32)  (hd : 43 ≤ d) (hW : WT V0) (ha0 : jis V0 (.inr 4) a0)  : jTot tS mX6_ways d [.ref a0, .int x1] V0 0 0 (fun r V => (jPost [.inr 0, .inl 12] V0 rN) r V ∧ jkc 0 [1, 2, 3] V0 V) := by
  refine jTot.of_J [some (.ref a0), some (.int x1)] moX6_ways (Nat.le_of_ble_eq_true rfl) rfl ?_
  have he : jeff [.inr 0, .inl 12] V0 V0 := jeff.refl _ _
  have hkp : jkc 0 [1, 2, 3] V0 V0 := jkc.rf
  refine J_aload_n dX6_ways_0 rfl ?_
  obtain ⟨fs1, hO1, hK1⟩ := WT_obj hW id ha0
  obtain ⟨w1, hF1, b1, rfl, hb1⟩ := hK1.2 6 (.inr (some (.inr 0))) rfl
  refine J_get jf_X6_42 dX6_ways_1 hO1 hF1 ?_
  refine Jw_callV0 (q9 := (RX2, TX2, 9)) moX2_holds jw_ml_X6_220 jw_im_X2_holds jw_se_X2_holds hb1 rfl rfl dX6_ways_4 (w_X2_holds (d - 1) _ _ (by omega) hW  hb1 ) (by omega) (Nat.zero_le _) (Nat.zero_le _) (Nat.le_of_ble_eq_true rfl) (fun r4 V4 h4 => ?_)
  obtain ⟨⟨hW, hx4, hr4⟩, hk4⟩ := h4
  have hkp := hkp.trans hk4
  have he := he.trans (hx4.sub (jsub_of rfl))
  have ha0 := ha0.mono hx4.1
  have hb1 := hb1.mono hx4.1
  have hO1 := hx4.2 _ _ hO1 (jnot_of rfl)
  have hK1 := hK1.mono hx4.1
  obtain ⟨y4, rfl, hl4, hh4⟩ := hr4
  refine J_if_ne (tgt := 13) dX6_ways_7 (by decide) (fun c7 => ?_) (fun c7 => ?_)
  · refine J_iload_n dX6_ways_13 rfl ?_
    refine J_if_eq (tgt := 27) dX6_ways_14 (by decide) (fun c14 => ?_) (fun c14 => ?_)
    · refine J_aload_n dX6_ways_27 rfl ?_
      refine J_get jf_X6_42 dX6_ways_28 hO1 hF1 ?_
      obtain ⟨fs31, hO31, hK31⟩ := WT_obj hW id hb1
      obtain ⟨w31, hF31, y31, rfl, hl31, hh31⟩ := hK31.2 5 (.inl ((-2147483648), 2147483647)) rfl
      dsimp only at hl31 hh31
      refine J_get jf_X6_225 dX6_ways_31 hO31 hF31 ?_
      exact J_ret (r := some (.int _)) dX6_ways_34 ⟨rfl, _, rfl, rfl⟩ (⟨⟨hW, he, rN_of _⟩, hkp⟩)
    · refine J_aload_n dX6_ways_17 rfl ?_
      refine J_get jf_X6_42 dX6_ways_18 hO1 hF1 ?_
      obtain ⟨fs21, hO21, hK21⟩ := WT_obj hW id hb1
      obtain ⟨w21, hF21, y21, rfl, hl21, hh21⟩ := hK21.2 6 (.inl ((-2147483648), 2147483647)) rfl
      dsimp only at hl21 hh21
      refine J_get jf_X6_222 dX6_ways_21 hO21 hF21 ?_
      refine J_goto (tgt := 34) dX6_ways_24 (by decide) ?_
      exact J_ret (r := some (.int _)) dX6_ways_34 ⟨rfl, _, rfl, rfl⟩ (⟨⟨hW, he, rN_of _⟩, hkp⟩)
  · refine J_bipush (v := -5) dX6_ways_10 (by decide) ?_
    exact J_ret (r := some (.int _)) dX6_ways_12 ⟨rfl, _, rfl, rfl⟩ (⟨⟨hW, he, rN_of _⟩, hkp⟩)
set_option maxRecDepth 100000 in
set_option maxHeartbeats 4000000 in
theorem w_X6_waysOf {tS : jTS} (d : Nat) (V0 : jH) (a0 : Nat) (x1 : Int32)  (hd : 43 ≤ d) (hW : WT V0) (ha0 : jis V0 (.inr 4) a0)  : jTot tS mX6_waysOf d [.ref a0, .int x1] V0 0 0 (fun r V => (jPost [.inr 0, .inl 12] V0 rN) r V ∧ jkc 0 [1, 2, 3] V0 V) := by
  refine jTot.of_J [some (.ref a0), some (.int x1)] moX6_waysOf (Nat.le_of_ble_eq_true rfl) rfl ?_
  have he : jeff [.inr 0, .inl 12] V0 V0 := jeff.refl _ _
  have hkp : jkc 0 [1, 2, 3] V0 V0 := jkc.rf
  refine J_iload_n dX6_waysOf_0 rfl ?_
  refine J_if_ge (tgt := 7) dX6_waysOf_1 (by decide) (fun c1 => ?_) (fun c1 => ?_)
  · refine J_aload_n dX6_waysOf_7 rfl ?_
    obtain ⟨fs8, hO8, hK8⟩ := WT_obj hW id ha0
    obtain ⟨w8, hF8, b8, rfl, hb8⟩ := hK8.2 6 (.inr (some (.inr 0))) rfl
    refine J_get jf_X6_42 dX6_waysOf_8 hO8 hF8 ?_
    refine Jw_callV0 (q9 := (RX2, TX2, 9)) moX2_holds jw_ml_X6_220 jw_im_X2_holds jw_se_X2_holds hb8 rfl rfl dX6_waysOf_11 (w_X2_holds (d - 1) _ _ (by omega) hW  hb8 ) (by omega) (Nat.zero_le _) (Nat.zero_le _) (Nat.le_of_ble_eq_true rfl) (fun r11 V11 h11 => ?_)
    obtain ⟨⟨hW, hx11, hr11⟩, hk11⟩ := h11
    have hkp := hkp.trans hk11
    have he := he.trans (hx11.sub (jsub_of rfl))
    have ha0 := ha0.mono hx11.1
    have hb8 := hb8.mono hx11.1
    have hO8 := hx11.2 _ _ hO8 (jnot_of rfl)
    have hK8 := hK8.mono hx11.1
    obtain ⟨y11, rfl, hl11, hh11⟩ := hr11
    refine J_if_eq (tgt := 31) dX6_waysOf_14 (by decide) (fun c14 => ?_) (fun c14 => ?_)
    · refine J_bipush (v := -5) dX6_waysOf_31 (by decide) ?_
      exact J_ret (r := some (.int _)) dX6_waysOf_33 ⟨rfl, _, rfl, rfl⟩ (⟨⟨hW, he, rN_of _⟩, hkp⟩)
    · refine J_aload_n dX6_waysOf_17 rfl ?_
      refine J_get jf_X6_42 dX6_waysOf_18 hO8 hF8 ?_
      obtain ⟨fs21, hO21, hK21⟩ := WT_obj hW id hb8
      obtain ⟨w21, hF21, b21, rfl, hb21⟩ := hK21.2 0 (.inr (some (.inl 12))) rfl
      refine J_get jf_X6_228 dX6_waysOf_21 hO21 hF21 ?_
      refine J_iload_n dX6_waysOf_24 rfl ?_
      refine J_callS2 moX6_cell jw_ml_X6_110 jw_st_X6_cell dX6_waysOf_25 (w_X6_cell (d - 1) _ _ _ hW hb21 rfl rfl) (by omega) (Nat.zero_le _) (Nat.zero_le _) (Nat.le_of_ble_eq_true rfl) (fun r25 V25 h25 => ?_)
      obtain ⟨⟨y25, rfl, hl25, hh25⟩, hE25⟩ := h25
      have hE25 := hE25.symm
      subst hE25
      refine J_goto (tgt := 33) dX6_waysOf_28 (by decide) ?_
      exact J_ret (r := some (.int _)) dX6_waysOf_33 ⟨rfl, _, rfl, rfl⟩ (⟨⟨hW, he, rN_of _⟩, hkp⟩)
  · refine J_bipush (v := -2) dX6_waysOf_4 (by decide) ?_
    exact J_ret (r := some (.int _)) dX6_waysOf_6 ⟨rfl, _, rfl, rfl⟩ (⟨⟨hW, he, rN_of _⟩, hkp⟩)
set_option maxRecDepth 100000 in
set_option maxHeartbeats 4000000 in
theorem w_X6_shortest {tS : jTS} (d : Nat) (V0 : jH) (a0 : Nat)  (hd : 3 ≤ d) (hW : WT V0) (ha0 : jis V0 (.inr 4) a0)  : jTot tS mX6_shortest d [.ref a0] V0 0 0 (fun r V => rN r V ∧ V = V0) := by
  refine jTot.of_J [some (.ref a0)] moX6_shortest (Nat.le_of_ble_eq_true rfl) rfl ?_
  have he : jeff [] V0 V0 := jeff.refl _ _
  refine J_aload_n dX6_shortest_0 rfl ?_
  obtain ⟨fs1, hO1, hK1⟩ := WT_obj hW id ha0
  obtain ⟨w1, hF1, b1, rfl, hb1⟩ := hK1.2 6 (.inr (some (.inr 0))) rfl
  refine J_get jf_X6_42 dX6_shortest_1 hO1 hF1 ?_
  refine Jw_callV0 (q9 := (RX2, TX2, 9)) moX2_shortestSteps jw_ml_X6_231 jw_im_X2_shortestSteps jw_se_X2_shortestSteps hb1 rfl rfl dX6_shortest_4 (w_X2_shortestSteps (d - 1) _ _ (by omega) hW  hb1 ) (by omega) (Nat.zero_le _) (Nat.zero_le _) (Nat.le_of_ble_eq_true rfl) (fun r4 V4 h4 => ?_)
  obtain ⟨⟨y4, rfl, hl4, hh4⟩, hE4⟩ := h4
  have hE4 := hE4.symm
  subst hE4
  exact J_ret (r := some (.int _)) dX6_shortest_7 ⟨rfl, _, rfl, rfl⟩ (⟨rN_of _, rfl⟩)
set_option maxRecDepth 100000 in
set_option maxHeartbeats 4000000 in
theorem w_X6_count {tS : jTS} (d : Nat) (V0 : jH) (a0 : Nat) (x1 : Int32)  (hd : 1 ≤ d) (hW : WT V0) (ha0 : jis V0 (.inr 4) a0)  : jTot tS mX6_count d [.ref a0, .int x1] V0 0 0 (fun r V => rN r V ∧ V = V0) := by
  refine jTot.of_J [some (.ref a0), some (.int x1)] moX6_count (Nat.le_of_ble_eq_true rfl) rfl ?_
  have he : jeff [] V0 V0 := jeff.refl _ _
  refine J_iload_n dX6_count_0 rfl ?_
  rcases jsw3 x1 with hx1 | hx1 | hx1 | hx1 | hx1
  · rw [hx1]
    refine J_tableIn (tgt := 32) dX6_count_1 (by decide) (by decide) rfl (by decide) ?_
    refine J_aload_n dX6_count_32 rfl ?_
    obtain ⟨fs33, hO33, hK33⟩ := WT_obj hW id ha0
    obtain ⟨w33, hF33, y33, rfl, hl33, hh33⟩ := hK33.2 1 (.inl (0, 16)) rfl
    dsimp only at hl33 hh33
    refine J_get jf_X6_15 dX6_count_33 hO33 hF33 ?_
    exact J_ret (r := some (.int _)) dX6_count_36 ⟨rfl, _, rfl, rfl⟩ (⟨rN_of _, rfl⟩)
  · rw [hx1]
    refine J_tableIn (tgt := 37) dX6_count_1 (by decide) (by decide) rfl (by decide) ?_
    refine J_aload_n dX6_count_37 rfl ?_
    obtain ⟨fs38, hO38, hK38⟩ := WT_obj hW id ha0
    obtain ⟨w38, hF38, b38, rfl, hb38⟩ := hK38.2 6 (.inr (some (.inr 0))) rfl
    refine J_get jf_X6_42 dX6_count_38 hO38 hF38 ?_
    obtain ⟨fs41, hO41, hK41⟩ := WT_obj hW id hb38
    obtain ⟨w41, hF41, y41, rfl⟩ := hK41.2 3 (.inr none) rfl
    refine J_get jf_X6_234 dX6_count_41 hO41 hF41 ?_
    refine J_callS1 moJ13_bitCount_95d88 jw_ml_X6_238 jw_st_J13_bitCount_95d88 dX6_count_44 (w_J13_bitCount_95d88 (d - 1) _ _ (by omega)    ) (by omega) (Nat.zero_le _) (Nat.zero_le _) (Nat.le_of_ble_eq_true rfl) (fun r44 V44 h44 => ?_)
    obtain ⟨⟨y44, rfl, hl44, hh44⟩, hE44⟩ := h44
    have hE44 := hE44.symm
    subst hE44
    exact J_ret (r := some (.int _)) dX6_count_47 ⟨rfl, _, rfl, rfl⟩ (⟨rN_of _, rfl⟩)
  · rw [hx1]
    refine J_tableIn (tgt := 48) dX6_count_1 (by decide) (by decide) rfl (by decide) ?_
    refine J_aload_n dX6_count_48 rfl ?_
    obtain ⟨fs49, hO49, hK49⟩ := WT_obj hW id ha0
    obtain ⟨w49, hF49, b49, rfl, hb49⟩ := hK49.2 6 (.inr (some (.inr 0))) rfl
    refine J_get jf_X6_42 dX6_count_49 hO49 hF49 ?_
    obtain ⟨fs52, hO52, hK52⟩ := WT_obj hW id hb49
    obtain ⟨w52, hF52, y52, rfl, hl52, hh52⟩ := hK52.2 1 (.inl ((-2147483648), 2147483647)) rfl
    dsimp only at hl52 hh52
    refine J_get jf_X6_205 dX6_count_52 hO52 hF52 ?_
    exact J_ret (r := some (.int _)) dX6_count_55 ⟨rfl, _, rfl, rfl⟩ (⟨rN_of _, rfl⟩)
  · rw [hx1]
    refine J_tableIn (tgt := 56) dX6_count_1 (by decide) (by decide) rfl (by decide) ?_
    refine J_aload_n dX6_count_56 rfl ?_
    obtain ⟨fs57, hO57, hK57⟩ := WT_obj hW id ha0
    obtain ⟨w57, hF57, b57, rfl, hb57⟩ := hK57.2 6 (.inr (some (.inr 0))) rfl
    refine J_get jf_X6_42 dX6_count_57 hO57 hF57 ?_
    obtain ⟨fs60, hO60, hK60⟩ := WT_obj hW id hb57
    obtain ⟨w60, hF60, y60, rfl, hl60, hh60⟩ := hK60.2 2 (.inl ((-2147483648), 2147483647)) rfl
    dsimp only at hl60 hh60
    refine J_get jf_X6_208 dX6_count_60 hO60 hF60 ?_
    exact J_ret (r := some (.int _)) dX6_count_63 ⟨rfl, _, rfl, rfl⟩ (⟨rN_of _, rfl⟩)
  · refine J_tableOut (tgt := 64) dX6_count_1 hx1 (by decide) ?_
    refine J_bipush (v := -2) dX6_count_64 (by decide) ?_
    exact J_ret (r := some (.int _)) dX6_count_66 ⟨rfl, _, rfl, rfl⟩ (⟨rN_of _, rfl⟩)
set_option maxRecDepth 100000 in
set_option maxHeartbeats 4000000 in
theorem w_X6_digest {tS : jTS} (d : Nat) (V0 : jH) (a0 : Nat)  (hd : 4 ≤ d) (hW : WT V0) (ha0 : jis V0 (.inr 4) a0)  : jTot tS mX6_digest d [.ref a0] V0 0 0 (fun r V => rL r V ∧ V = V0) := by
  refine jTot.of_J [some (.ref a0), none, none, none, none] moX6_digest (Nat.le_of_ble_eq_true rfl) rfl ?_
  have he : jeff [] V0 V0 := jeff.refl _ _
  refine J_ldc2 jw_k_X6_244 dX6_digest_0 ?_
  refine J_lstore_n dX6_digest_3 rfl (by decide) ?_
  refine J_iconst (v := 0) dX6_digest_4 (by decide) ?_
  refine J_istore_n dX6_digest_5 rfl (by decide) ?_
  have L6 : ∀ (N : Nat) (i1 : Int64) (i3 : Int32), WT V0 → jeff [] V0 V0 → jis V0 (.inr 4) a0 → (2147483648 - i3.toInt).toNat < N → J tS mX6_digest d 6 [some (.ref a0), some (.long i1), none, some (.int i3), none] [] V0 0 0 (fun r V => rL r V ∧ V = V0) := by
    intro N
    induction N with
    | zero => intro i1 i3 hW he ha0  hm; exact absurd hm (Nat.not_lt_zero _)
    | succ N ih =>
      intro i1 i3 hW he ha0  hm
      have ih6 := ih
      refine J_iload_n dX6_digest_6 rfl ?_
      refine J_iconst (v := 4) dX6_digest_7 (by decide) ?_
      refine J_icmp_ge (tgt := 30) dX6_digest_8 (by decide) (fun c8 => ?_) (fun c8 => ?_)
      · refine J_iconst (v := 0) dX6_digest_30 (by decide) ?_
        refine J_istore_n dX6_digest_31 rfl (by decide) ?_
        have L32 : ∀ (N : Nat) (i1 : Int64) (i3 : Int32), WT V0 → jeff [] V0 V0 → jis V0 (.inr 4) a0 → (2147483648 - i3.toInt).toNat < N → J tS mX6_digest d 32 [some (.ref a0), some (.long i1), none, some (.int i3), none] [] V0 0 0 (fun r V => rL r V ∧ V = V0) := by
          intro N
          induction N with
          | zero => intro i1 i3 hW he ha0  hm; exact absurd hm (Nat.not_lt_zero _)
          | succ N ih =>
            intro i1 i3 hW he ha0  hm
            have ih32 := ih
            refine J_iload_n dX6_digest_32 rfl ?_
            refine J_aload_n dX6_digest_33 rfl ?_
            obtain ⟨fs34, hO34, hK34⟩ := WT_obj hW id ha0
            obtain ⟨w34, hF34, y34, rfl, hl34, hh34⟩ := hK34.2 1 (.inl (0, 16)) rfl
            dsimp only at hl34 hh34
            refine J_get jf_X6_15 dX6_digest_34 hO34 hF34 ?_
            refine J_icmp_ge (tgt := 65) dX6_digest_37 (by decide) (fun c37 => ?_) (fun c37 => ?_)
            · refine J_aload_n dX6_digest_65 rfl ?_
              obtain ⟨w66, hF66, b66, rfl, hb66⟩ := hK34.2 6 (.inr (some (.inr 0))) rfl
              refine J_get jf_X6_42 dX6_digest_66 hO34 hF66 ?_
              refine J_lload_n dX6_digest_69 rfl ?_
              refine Jw_callV1 (q9 := (RX2, TX2, 9)) moX2_digestOnto jw_ml_X6_255 jw_im_X2_digestOnto jw_se_X2_digestOnto hb66 rfl rfl dX6_digest_70 (w_X2_digestOnto (d - 1) _ _ _ (by omega) hW  hb66 ) (by omega) (Nat.zero_le _) (Nat.zero_le _) (Nat.le_of_ble_eq_true rfl) (fun r70 V70 h70 => ?_)
              obtain ⟨⟨y70, rfl⟩, hE70⟩ := h70
              have hE70 := hE70.symm
              subst hE70
              exact J_ret (r := some (.long _)) dX6_digest_73 ⟨rfl, rfl⟩ (⟨⟨_, rfl⟩, rfl⟩)
            · refine J_aload_n dX6_digest_40 rfl ?_
              refine J_iload_n dX6_digest_41 rfl ?_
              refine Jw_callV1 (q9 := (RX6, TX6, 7)) moX6_rowOf jw_ml_X6_55 jw_im_X6_rowOf jw_se_X6_rowOf ha0 rfl rfl dX6_digest_42 (w_X6_rowOf (d - 1) _ _ _ (by omega) hW  ha0 ) (by omega) (Nat.zero_le _) (Nat.zero_le _) (Nat.le_of_ble_eq_true rfl) (fun r42 V42 h42 => ?_)
              obtain ⟨hr42, hE42⟩ := h42
              have hE42 := hE42.symm
              subst hE42
              rcases hr42 with rfl | ⟨b42, rfl, hb42⟩
              · refine J_astoreN dX6_digest_45 rfl (by decide) ?_
                refine J_aloadN dX6_digest_47 rfl ?_
                refine J_ifnullN (tgt := 59) dX6_digest_49 (by decide) ?_
                refine J_iinc dX6_digest_59 rfl j_inc1 rfl (by decide) ?_
                refine J_goto (tgt := 32) dX6_digest_62 (by decide) ?_
                refine J.mask [true, true, false, true, false] ?_
                exact ih32  _ _ hW he ha0  (jdec_up (Int32.not_le.mp c37) (by assumption))
              · refine J_astore dX6_digest_45 rfl (by decide) ?_
                refine J_aload dX6_digest_47 rfl ?_
                refine J_ifnull dX6_digest_49 ?_
                refine J_aload dX6_digest_52 rfl ?_
                refine J_lload_n dX6_digest_54 rfl ?_
                refine Jw_callV1 (q9 := (RX3, TX3, 7)) moX3_digestOnto jw_ml_X6_251 jw_im_X3_digestOnto jw_se_X3_digestOnto hb42 rfl rfl dX6_digest_55 (w_X3_digestOnto (d - 1) _ _ _ (by omega) hW  hb42 ) (by omega) (Nat.zero_le _) (Nat.zero_le _) (Nat.le_of_ble_eq_true rfl) (fun r55 V55 h55 => ?_)
                obtain ⟨⟨y55, rfl⟩, hE55⟩ := h55
                have hE55 := hE55.symm
                subst hE55
                refine J_lstore_n dX6_digest_58 rfl (by decide) ?_
                refine J_iinc dX6_digest_59 rfl j_inc1 rfl (by decide) ?_
                refine J_goto (tgt := 32) dX6_digest_62 (by decide) ?_
                refine J.mask [true, true, false, true, false] ?_
                exact ih32  _ _ hW he ha0  (jdec_up (Int32.not_le.mp c37) (by assumption))
        refine J.mask [true, true, false, true, false] ?_
        exact L32 _  _ _ hW he ha0  (Nat.lt_succ_self _)
      · refine J_ldc2 jw_k_X6_246 dX6_digest_11 ?_
        refine J_lload_n dX6_digest_14 rfl ?_
        refine J_lmul dX6_digest_15 ?_
        refine J_aload_n dX6_digest_16 rfl ?_
        refine J_iload_n dX6_digest_17 rfl ?_
        refine Jw_callV1 (q9 := (RX6, TX6, 7)) moX6_count jw_ml_X6_248 jw_im_X6_count jw_se_X6_count ha0 rfl rfl dX6_digest_18 (w_X6_count (d - 1) _ _ _ (by omega) hW  ha0 ) (by omega) (Nat.zero_le _) (Nat.zero_le _) (Nat.le_of_ble_eq_true rfl) (fun r18 V18 h18 => ?_)
        obtain ⟨⟨y18, rfl, hl18, hh18⟩, hE18⟩ := h18
        have hE18 := hE18.symm
        subst hE18
        refine J_i2l dX6_digest_21 rfl ?_
        refine J_ladd dX6_digest_22 ?_
        refine J_lstore_n dX6_digest_23 rfl (by decide) ?_
        refine J_iinc dX6_digest_24 rfl j_inc1 rfl (by decide) ?_
        refine J_goto (tgt := 6) dX6_digest_27 (by decide) ?_
        refine J.mask [true, true, false, true, false] ?_
        exact ih6  _ _ hW he ha0  (jdec_up (Int32.not_le.mp c8) (by assumption))
  refine J.mask [true, true, false, true, false] ?_
  exact L6 _  _ _ hW he ha0  (Nat.lt_succ_self _)
set_option maxRecDepth 100000 in
set_option maxHeartbeats 4000000 in
theorem w_X6_tallyFor_old {tS : jTS} (d : Nat) (V0 : jH) (a0 : Nat) (x1 : Int32) (x2 : Int32) (x3 : Int32) (fs : List Value) (tl : Nat) (f : Nat → Option Nat) (hd : 2 ≤ d) (hW : WT V0) (ha0 : jis V0 (.inr 4) a0) (hx : V0 a0 = some (.inr (4, fs))) (h5 : fs[5]? = some (.ref tl)) (htl : V0 tl = some (.inl (5, 4, .inr (.inr (.inr (.inr f)))))) (ho : ∀ j, x1 = nI j → j < 4 → ∃ t, f j = some t) (hb1 : ¬ x1 < 0) (hb2 : ¬ Int32.ofNat 4 ≤ x1) (hb3 : ¬ x2 < x3) (hb4 : x2 ≤ 20) : jTot tS mX6_tallyFor d [.ref a0, .int x1, .int x2, .int x3] V0 0 0 (fun r V => (∃ j t : Nat, j < 4 ∧ x1 = nI j ∧ f j = some t ∧ r = some (.ref t)) ∧ V = V0) := by
  refine jTot.of_J [some (.ref a0), some (.int x1), some (.int x2), some (.int x3), none] moX6_tallyFor (Nat.le_of_ble_eq_true rfl) rfl ?_
  have he : jeff [] V0 V0 := jeff.refl _ _
  have hKx : jokO V0 (jFs 4) fs := hW _ _ id hx
  have htlk : jis V0 (.inl 5) tl := ⟨_, htl, rfl⟩
  have hN4 : (4 : Nat) < 2 ^ 31 := by decide
  have hvt : ∀ (j b : Nat), j < 4 → f j = some b → jis V0 (.inr 2) b := by
    obtain ⟨n9, f9, h91, h92, h93, h94⟩ := WT_arrR hW id rfl htlk
    cases htl.symm.trans h91
    exact h94
  refine J_iload_n dX6_tallyFor_0 rfl ?_
  refine J_if_lt (tgt := 24) dX6_tallyFor_1 (by decide) (fun c1 => ?_) (fun c1 => ?_)
  · exact False.elim (by first | exact hb1 c1 | exact hb2 c10 | exact hb3 c15 | exact c21 hb4)
  · refine J_iload_n dX6_tallyFor_4 rfl ?_
    refine J_aload_n dX6_tallyFor_5 rfl ?_
    refine J_get jf_X6_35 dX6_tallyFor_6 hx h5 ?_
    refine J_alen (v := Int32.ofNat 4) dX6_tallyFor_9 htl rfl rfl ?_
    refine J_icmp_ge (tgt := 24) dX6_tallyFor_10 (by decide) (fun c10 => ?_) (fun c10 => ?_)
    · exact False.elim (by first | exact hb1 c1 | exact hb2 c10 | exact hb3 c15 | exact c21 hb4)
    · refine J_iload_n dX6_tallyFor_13 rfl ?_
      refine J_iload_n dX6_tallyFor_14 rfl ?_
      refine J_icmp_lt (tgt := 24) dX6_tallyFor_15 (by decide) (fun c15 => ?_) (fun c15 => ?_)
      · exact False.elim (by first | exact hb1 c1 | exact hb2 c10 | exact hb3 c15 | exact c21 hb4)
      · refine J_iload_n dX6_tallyFor_18 rfl ?_
        refine J_bipush (v := 20) dX6_tallyFor_19 (by decide) ?_
        refine J_icmp_le (tgt := 26) dX6_tallyFor_21 (by decide) (fun c21 => ?_) (fun c21 => ?_)
        · refine J_aload_n dX6_tallyFor_26 rfl ?_
          refine J_get jf_X6_35 dX6_tallyFor_27 hx h5 ?_
          refine J_iload_n dX6_tallyFor_30 rfl ?_
          have hin : vp_in x1 4 := by exact vp_in_g (by assumption) (by assumption) (by assumption)
          obtain ⟨j, hj, hg⟩ := vp_in_of hin (by decide)
          obtain ⟨t, ht⟩ := ho j hg hj
          have hcl : x1.toNatClampNeg = j := by rw [hg]; exact nI_clamp (by omega)
          have hbt : jis V0 (.inr 2) t := hvt j t hj ht
          refine J_aald dX6_tallyFor_31 (t := 5) rfl htl hin ?_
          rw [hcl, ht, show va_rf (some t) = Value.ref t from rfl]
          · refine J_astore dX6_tallyFor_32 rfl (by decide) ?_
            refine J_aload dX6_tallyFor_34 rfl ?_
            refine J_ifnonnull (tgt := 57) dX6_tallyFor_36 (by decide) ?_
            refine J_aload dX6_tallyFor_57 rfl ?_
            exact J_ret (r := some (.ref _)) dX6_tallyFor_59 ⟨rfl, _, rfl, Or.inl ⟨_, rfl⟩⟩ (⟨⟨j, t, hj, hg, ht, rfl⟩, rfl⟩)
        · exact False.elim (by first | exact hb1 c1 | exact hb2 c10 | exact hb3 c15 | exact c21 hb4)
set_option maxRecDepth 100000 in
set_option maxHeartbeats 4000000 in
theorem w_X6_tallyFor_bad {tS : jTS} (d : Nat) (V0 : jH) (a0 : Nat) (x1 : Int32) (x2 : Int32) (x3 : Int32)  (hd : 2 ≤ d) (hW : WT V0) (ha0 : jis V0 (.inr 4) a0) (hbad : x1 < 0 ∨ Int32.ofNat 4 ≤ x1 ∨ x2 < x3 ∨ ¬ x2 ≤ 20) : jTot tS mX6_tallyFor d [.ref a0, .int x1, .int x2, .int x3] V0 0 0 (fun r V => r = some .null ∧ V = V0) := by
  refine jTot.of_J [some (.ref a0), some (.int x1), some (.int x2), some (.int x3), none] moX6_tallyFor (Nat.le_of_ble_eq_true rfl) rfl ?_
  have he : jeff [] V0 V0 := jeff.refl _ _
  refine J_iload_n dX6_tallyFor_0 rfl ?_
  refine J_if_lt (tgt := 24) dX6_tallyFor_1 (by decide) (fun c1 => ?_) (fun c1 => ?_)
  · refine J_null dX6_tallyFor_24 ?_
    exact J_ret (r := some .null) dX6_tallyFor_25 ⟨rfl, _, rfl, Or.inl ⟨_, rfl⟩⟩ (⟨rfl, rfl⟩)
  · refine J_iload_n dX6_tallyFor_4 rfl ?_
    refine J_aload_n dX6_tallyFor_5 rfl ?_
    obtain ⟨fs6, hO6, hK6⟩ := WT_obj hW id ha0
    obtain ⟨w6, hF6, b6, rfl, hb6⟩ := hK6.2 5 (.inr (some (.inl 5))) rfl
    refine J_get jf_X6_35 dX6_tallyFor_6 hO6 hF6 ?_
    obtain ⟨n9, f9, hA9, hN9, hM9, hv9⟩ := WT_arrR hW id rfl hb6
    obtain rfl := hM9 4 rfl
    refine J_alen (v := Int32.ofNat 4) dX6_tallyFor_9 hA9 rfl rfl ?_
    refine J_icmp_ge (tgt := 24) dX6_tallyFor_10 (by decide) (fun c10 => ?_) (fun c10 => ?_)
    · refine J_null dX6_tallyFor_24 ?_
      exact J_ret (r := some .null) dX6_tallyFor_25 ⟨rfl, _, rfl, Or.inl ⟨_, rfl⟩⟩ (⟨rfl, rfl⟩)
    · refine J_iload_n dX6_tallyFor_13 rfl ?_
      refine J_iload_n dX6_tallyFor_14 rfl ?_
      refine J_icmp_lt (tgt := 24) dX6_tallyFor_15 (by decide) (fun c15 => ?_) (fun c15 => ?_)
      · refine J_null dX6_tallyFor_24 ?_
        exact J_ret (r := some .null) dX6_tallyFor_25 ⟨rfl, _, rfl, Or.inl ⟨_, rfl⟩⟩ (⟨rfl, rfl⟩)
      · refine J_iload_n dX6_tallyFor_18 rfl ?_
        refine J_bipush (v := 20) dX6_tallyFor_19 (by decide) ?_
        refine J_icmp_le (tgt := 26) dX6_tallyFor_21 (by decide) (fun c21 => ?_) (fun c21 => ?_)
        · exact False.elim (hbad.elim c1 (fun h => h.elim c10 (fun h => h.elim c15 (fun h => h c21))))
        · refine J_null dX6_tallyFor_24 ?_
          exact J_ret (r := some .null) dX6_tallyFor_25 ⟨rfl, _, rfl, Or.inl ⟨_, rfl⟩⟩ (⟨rfl, rfl⟩)
set_option maxRecDepth 100000 in
set_option maxHeartbeats 4000000 in
theorem w_X6_forms_bad {tS : jTS} (d : Nat) (V0 : jH) (a0 : Nat) (x1 : Int32) (x2 : Int32)  (hd : 28 ≤ d) (hW : WT V0) (ha0 : jis V0 (.inr 4) a0) (hbad : x1 < 0 ∨ Int32.ofNat 4 ≤ x1 ∨ x2 < 0 ∨ ¬ x2 ≤ 20) : jTot tS mX6_forms d [.ref a0, .int x1, .int x2] V0 0 0 (fun r V => rN r V ∧ V = V0) := by
  refine jTot.of_J [some (.ref a0), some (.int x1), some (.int x2), none] moX6_forms (Nat.le_of_ble_eq_true rfl) rfl ?_
  have he : jeff [] V0 V0 := jeff.refl _ _
  refine J_aload_n dX6_forms_0 rfl ?_
  refine J_iload_n dX6_forms_1 rfl ?_
  refine J_iload_n dX6_forms_2 rfl ?_
  refine J_iconst (v := 0) dX6_forms_3 (by decide) ?_
  refine Jw_callV3 (q9 := (RX6, TX6, 7)) moX6_tallyFor jw_ml_X6_149 jw_im_X6_tallyFor jw_se_X6_tallyFor ha0 rfl rfl dX6_forms_4 (w_X6_tallyFor_bad (d - 1) _ _ _ _ _ (by omega) hW ha0 hbad) (by omega) (Nat.zero_le _) (Nat.zero_le _) (Nat.le_of_ble_eq_true rfl) (fun r4 V4 h4 => ?_)
  obtain ⟨rfl, hE4⟩ := h4
  have hE4 := hE4.symm
  subst hE4
  · refine J_astore_nN dX6_forms_7 rfl (by decide) ?_
    refine J_aload_nN dX6_forms_8 rfl ?_
    refine J_ifnullN (tgt := 18) dX6_forms_9 (by decide) ?_
    refine J_bipush (v := -2) dX6_forms_18 (by decide) ?_
    exact J_ret (r := some (.int _)) dX6_forms_20 ⟨rfl, _, rfl, rfl⟩ (⟨rN_of _, rfl⟩)
