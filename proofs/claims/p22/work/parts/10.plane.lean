set_option maxRecDepth 100000 in
set_option maxHeartbeats 4000000 in
theorem w_X2_numberOf {tS : jTS} (d : Nat) (V0 : jH) (x0 : Int32) (x1 : Int32)  (hd : 0 ≤ d)    : jTot tS mX2_numberOf d [.int x0, .int x1] V0 0 0 (fun r V => rN r V ∧ V = V0) := by
  refine jTot.of_J [some (.int x0), some (.int x1)] moX2_numberOf (Nat.le_of_ble_eq_true rfl) rfl ?_
  refine J_bipush (v := 9) dX2_numberOf_0 (by decide) ?_
  refine J_iload_n dX2_numberOf_2 rfl ?_
  refine J_iadd dX2_numberOf_3 ?_
  refine J_bipush (v := 8) dX2_numberOf_4 (by decide) ?_
  refine J_iload_n dX2_numberOf_6 rfl ?_
  refine J_imul dX2_numberOf_7 ?_
  refine J_iadd dX2_numberOf_8 ?_
  exact J_ret (r := some (.int _)) dX2_numberOf_9 ⟨rfl, _, rfl, rfl⟩ (⟨rN_of _, rfl⟩)
set_option maxRecDepth 100000 in
set_option maxHeartbeats 4000000 in
theorem w_X2_bitOf {tS : jTS} (d : Nat) (V0 : jH) (x0 : Int32) (x1 : Int32)  (hd : 1 ≤ d)    : jTot tS mX2_bitOf d [.int x0, .int x1] V0 0 0 (fun r V => rL r V ∧ V = V0) := by
  refine jTot.of_J [some (.int x0), some (.int x1)] moX2_bitOf (Nat.le_of_ble_eq_true rfl) rfl ?_
  refine J_lconst (v := 1) dX2_bitOf_0 rfl ?_
  refine J_iload_n dX2_bitOf_1 rfl ?_
  refine J_iload_n dX2_bitOf_2 rfl ?_
  refine J_callS2 moX2_numberOf jw_ml_X2_50 jw_st_X2_numberOf dX2_bitOf_3 (w_X2_numberOf (d - 1) _ _ _ (by omega)    ) (by omega) (Nat.zero_le _) (Nat.zero_le _) (Nat.le_of_ble_eq_true rfl) (fun r3 V3 h3 => ?_)
  obtain ⟨⟨y3, rfl, hl3, hh3⟩, hE3⟩ := h3
  have hE3 := hE3.symm
  subst hE3
  refine J_lshl dX2_bitOf_6 rfl ?_
  exact J_ret (r := some (.long _)) dX2_bitOf_7 ⟨rfl, rfl⟩ (⟨⟨_, rfl⟩, rfl⟩)
set_option maxRecDepth 100000 in
set_option maxHeartbeats 4000000 in
theorem w_X2_isHole {tS : jTS} (d : Nat) (V0 : jH) (a0 : Nat) (x1 : Int32) (x2 : Int32)  (hd : 2 ≤ d) (hW : WT V0) (ha0 : jis V0 (.inr 0) a0)  : jTot tS mX2_isHole d [.ref a0, .int x1, .int x2] V0 0 0 (fun r V => (rI 0 1) r V ∧ V = V0) := by
  refine jTot.of_J [some (.ref a0), some (.int x1), some (.int x2)] moX2_isHole (Nat.le_of_ble_eq_true rfl) rfl ?_
  have he : jeff [] V0 V0 := jeff.refl _ _
  refine J_aload_n dX2_isHole_0 rfl ?_
  obtain ⟨fs1, hO1, hK1⟩ := WT_obj hW id ha0
  obtain ⟨w1, hF1, y1, rfl⟩ := hK1.2 3 (.inr none) rfl
  refine J_get jf_X2_22 dX2_isHole_1 hO1 hF1 ?_
  refine J_iload_n dX2_isHole_4 rfl ?_
  refine J_iload_n dX2_isHole_5 rfl ?_
  refine J_callS2 moX2_bitOf jw_ml_X2_46 jw_st_X2_bitOf dX2_isHole_6 (w_X2_bitOf (d - 1) _ _ _ (by omega)    ) (by omega) (Nat.zero_le _) (Nat.zero_le _) (Nat.le_of_ble_eq_true rfl) (fun r6 V6 h6 => ?_)
  obtain ⟨⟨y6, rfl⟩, hE6⟩ := h6
  have hE6 := hE6.symm
  subst hE6
  refine J_land dX2_isHole_9 ?_
  refine J_lconst (v := 0) dX2_isHole_10 rfl ?_
  refine J_lcmp dX2_isHole_11 ?_
  refine J_if_ne (tgt := 19) dX2_isHole_12 (by decide) (fun c12 => ?_) (fun c12 => ?_)
  · refine J_iconst (v := 0) dX2_isHole_19 (by decide) ?_
    exact J_ret (r := some (.int _)) dX2_isHole_20 ⟨rfl, _, rfl, (by first | rfl | exact nar_b (by assumption) (by assumption))⟩ (⟨⟨_, rfl, by first | decide | assumption | omega, by first | decide | assumption | omega⟩, rfl⟩)
  · refine J_iconst (v := 1) dX2_isHole_15 (by decide) ?_
    refine J_goto (tgt := 20) dX2_isHole_16 (by decide) ?_
    exact J_ret (r := some (.int _)) dX2_isHole_20 ⟨rfl, _, rfl, (by first | rfl | exact nar_b (by assumption) (by assumption))⟩ (⟨⟨_, rfl, by first | decide | assumption | omega, by first | decide | assumption | omega⟩, rfl⟩)
set_option maxRecDepth 100000 in
set_option maxHeartbeats 4000000 in
theorem w_X2_shortestSteps {tS : jTS} (d : Nat) (V0 : jH) (a0 : Nat)  (hd : 2 ≤ d) (hW : WT V0) (ha0 : jis V0 (.inr 0) a0)  : jTot tS mX2_shortestSteps d [.ref a0] V0 0 0 (fun r V => rN r V ∧ V = V0) := by
  refine jTot.of_J [some (.ref a0), none, none, none, none, none, none, none] moX2_shortestSteps (Nat.le_of_ble_eq_true rfl) rfl ?_
  have he : jeff [] V0 V0 := jeff.refl _ _
  refine J_aload_n dX2_shortestSteps_0 rfl ?_
  obtain ⟨fs1, hO1, hK1⟩ := WT_obj hW id ha0
  obtain ⟨w1, hF1, y1, rfl, hl1, hh1⟩ := hK1.2 1 (.inl ((-2147483648), 2147483647)) rfl
  dsimp only at hl1 hh1
  refine J_get jf_X2_15 dX2_shortestSteps_1 hO1 hF1 ?_
  refine J_iconst (v := 1) dX2_shortestSteps_4 (by decide) ?_
  refine J_isub dX2_shortestSteps_5 ?_
  refine J_aload_n dX2_shortestSteps_6 rfl ?_
  obtain ⟨w7, hF7, y7, rfl, hl7, hh7⟩ := hK1.2 2 (.inl ((-2147483648), 2147483647)) rfl
  dsimp only at hl7 hh7
  refine J_get jf_X2_19 dX2_shortestSteps_7 hO1 hF7 ?_
  refine J_iconst (v := 1) dX2_shortestSteps_10 (by decide) ?_
  refine J_isub dX2_shortestSteps_11 ?_
  refine J_callS2 moX2_bitOf jw_ml_X2_46 jw_st_X2_bitOf dX2_shortestSteps_12 (w_X2_bitOf (d - 1) _ _ _ (by omega)    ) (by omega) (Nat.zero_le _) (Nat.zero_le _) (Nat.le_of_ble_eq_true rfl) (fun r12 V12 h12 => ?_)
  obtain ⟨⟨y12, rfl⟩, hE12⟩ := h12
  have hE12 := hE12.symm
  subst hE12
  refine J_lstore_n dX2_shortestSteps_15 rfl (by decide) ?_
  refine J_iconst (v := 0) dX2_shortestSteps_16 (by decide) ?_
  refine J_iconst (v := 0) dX2_shortestSteps_17 (by decide) ?_
  refine J_callS2 moX2_bitOf jw_ml_X2_46 jw_st_X2_bitOf dX2_shortestSteps_18 (w_X2_bitOf (d - 1) _ _ _ (by omega)    ) (by omega) (Nat.zero_le _) (Nat.zero_le _) (Nat.le_of_ble_eq_true rfl) (fun r18 V18 h18 => ?_)
  obtain ⟨⟨y18, rfl⟩, hE18⟩ := h18
  have hE18 := hE18.symm
  subst hE18
  refine J_lstore_n dX2_shortestSteps_21 rfl (by decide) ?_
  refine J_iconst (v := 0) dX2_shortestSteps_22 (by decide) ?_
  refine J_istore dX2_shortestSteps_23 rfl (by decide) ?_
  have L25 : ∀ (N : Nat) (i1 : Int64) (i3 : Int64) (i5 : Int32), WT V0 → jeff [] V0 V0 → jis V0 (.inr 0) a0 → (2147483648 - i5.toInt).toNat < N → J tS mX2_shortestSteps d 25 [some (.ref a0), some (.long i1), none, some (.long i3), none, some (.int i5), none, none] [] V0 0 0 (fun r V => rN r V ∧ V = V0) := by
    intro N
    induction N with
    | zero => intro i1 i3 i5 hW he ha0  hm; exact absurd hm (Nat.not_lt_zero _)
    | succ N ih =>
      intro i1 i3 i5 hW he ha0  hm
      have ih25 := ih
      refine J_iload dX2_shortestSteps_25 rfl ?_
      refine J_bipush (v := 36) dX2_shortestSteps_27 (by decide) ?_
      refine J_icmp_ge (tgt := 78) dX2_shortestSteps_29 (by decide) (fun c29 => ?_) (fun c29 => ?_)
      · refine J_iconst (v := -1) dX2_shortestSteps_78 (by decide) ?_
        exact J_ret (r := some (.int _)) dX2_shortestSteps_79 ⟨rfl, _, rfl, rfl⟩ (⟨rN_of _, rfl⟩)
      · refine J_lload_n dX2_shortestSteps_32 rfl ?_
        refine J_lload_n dX2_shortestSteps_33 rfl ?_
        refine J_land dX2_shortestSteps_34 ?_
        refine J_lconst (v := 0) dX2_shortestSteps_35 rfl ?_
        refine J_lcmp dX2_shortestSteps_36 ?_
        refine J_if_eq (tgt := 43) dX2_shortestSteps_37 (by decide) (fun c37 => ?_) (fun c37 => ?_)
        · refine J_lload_n dX2_shortestSteps_43 rfl ?_
          refine J_iconst (v := 1) dX2_shortestSteps_44 (by decide) ?_
          refine J_lshl dX2_shortestSteps_45 rfl ?_
          refine J_lload_n dX2_shortestSteps_46 rfl ?_
          refine J_iconst (v := 1) dX2_shortestSteps_47 (by decide) ?_
          refine J_lushr dX2_shortestSteps_48 rfl ?_
          refine J_lor dX2_shortestSteps_49 ?_
          refine J_lload_n dX2_shortestSteps_50 rfl ?_
          refine J_bipush (v := 8) dX2_shortestSteps_51 (by decide) ?_
          refine J_lshl dX2_shortestSteps_53 rfl ?_
          refine J_lor dX2_shortestSteps_54 ?_
          refine J_lload_n dX2_shortestSteps_55 rfl ?_
          refine J_bipush (v := 8) dX2_shortestSteps_56 (by decide) ?_
          refine J_lushr dX2_shortestSteps_58 rfl ?_
          refine J_lor dX2_shortestSteps_59 ?_
          refine J_lstore dX2_shortestSteps_60 rfl (by decide) ?_
          refine J_lload_n dX2_shortestSteps_62 rfl ?_
          refine J_lload dX2_shortestSteps_63 rfl ?_
          refine J_aload_n dX2_shortestSteps_65 rfl ?_
          obtain ⟨fs66, hO66, hK66⟩ := WT_obj hW id ha0
          obtain ⟨w66, hF66, y66, rfl⟩ := hK66.2 3 (.inr none) rfl
          refine J_get jf_X2_22 dX2_shortestSteps_66 hO66 hF66 ?_
          refine J_land dX2_shortestSteps_69 ?_
          refine J_lor dX2_shortestSteps_70 ?_
          refine J_lstore_n dX2_shortestSteps_71 rfl (by decide) ?_
          refine J_iinc dX2_shortestSteps_72 rfl j_inc1 rfl (by decide) ?_
          refine J_goto (tgt := 25) dX2_shortestSteps_75 (by decide) ?_
          refine J.mask [true, true, false, true, false, true, false, false] ?_
          exact ih25  _ _ _ hW he ha0  (jdec_up (Int32.not_le.mp c29) (by assumption))
        · refine J_iload dX2_shortestSteps_40 rfl ?_
          exact J_ret (r := some (.int _)) dX2_shortestSteps_42 ⟨rfl, _, rfl, rfl⟩ (⟨rN_of _, rfl⟩)
  refine J.mask [true, true, false, true, false, true, false, false] ?_
  exact L25 _  _ _ _ hW he ha0  (Nat.lt_succ_self _)
set_option maxRecDepth 100000 in
set_option maxHeartbeats 4000000 in
theorem w_X2_digestOnto {tS : jTS} (d : Nat) (V0 : jH) (a0 : Nat) (x1 : Int64)  (hd : 3 ≤ d) (hW : WT V0) (ha0 : jis V0 (.inr 0) a0)  : jTot tS mX2_digestOnto d [.ref a0, .long x1] V0 0 0 (fun r V => rL r V ∧ V = V0) := by
  refine jTot.of_J [some (.ref a0), some (.long x1), none, none, none, none, none] moX2_digestOnto (Nat.le_of_ble_eq_true rfl) rfl ?_
  have he : jeff [] V0 V0 := jeff.refl _ _
  refine J_lload_n dX2_digestOnto_0 rfl ?_
  refine J_lstore_n dX2_digestOnto_1 rfl (by decide) ?_
  refine J_iconst (v := 0) dX2_digestOnto_2 (by decide) ?_
  refine J_istore dX2_digestOnto_3 rfl (by decide) ?_
  have L5 : ∀ (N : Nat) (i3 : Int64) (i5 : Int32), WT V0 → jeff [] V0 V0 → jis V0 (.inr 0) a0 → (2147483648 - i5.toInt).toNat < N → J tS mX2_digestOnto d 5 [some (.ref a0), some (.long x1), none, some (.long i3), none, some (.int i5), none] [] V0 0 0 (fun r V => rL r V ∧ V = V0) := by
    intro N
    induction N with
    | zero => intro i3 i5 hW he ha0  hm; exact absurd hm (Nat.not_lt_zero _)
    | succ N ih =>
      intro i3 i5 hW he ha0  hm
      have ih5 := ih
      refine J_iload dX2_digestOnto_5 rfl ?_
      refine J_aload_n dX2_digestOnto_7 rfl ?_
      obtain ⟨fs8, hO8, hK8⟩ := WT_obj hW id ha0
      obtain ⟨w8, hF8, y8, rfl, hl8, hh8⟩ := hK8.2 2 (.inl ((-2147483648), 2147483647)) rfl
      dsimp only at hl8 hh8
      refine J_get jf_X2_19 dX2_digestOnto_8 hO8 hF8 ?_
      refine J_icmp_ge (tgt := 67) dX2_digestOnto_11 (by decide) (fun c11 => ?_) (fun c11 => ?_)
      · refine J_lload_n dX2_digestOnto_67 rfl ?_
        exact J_ret (r := some (.long _)) dX2_digestOnto_68 ⟨rfl, rfl⟩ (⟨⟨_, rfl⟩, rfl⟩)
      · refine J_iconst (v := 0) dX2_digestOnto_14 (by decide) ?_
        refine J_istore dX2_digestOnto_15 rfl (by decide) ?_
        have L17 : ∀ (N : Nat) (i3 : Int64) (i6 : Int32), WT V0 → jeff [] V0 V0 → jis V0 (.inr 0) a0 → (2147483648 - i6.toInt).toNat < N → J tS mX2_digestOnto d 17 [some (.ref a0), some (.long x1), none, some (.long i3), none, some (.int i5), some (.int i6)] [] V0 0 0 (fun r V => rL r V ∧ V = V0) := by
          intro N
          induction N with
          | zero => intro i3 i6 hW he ha0  hm; exact absurd hm (Nat.not_lt_zero _)
          | succ N ih =>
            intro i3 i6 hW he ha0  hm
            have ih17 := ih
            refine J_iload dX2_digestOnto_17 rfl ?_
            refine J_aload_n dX2_digestOnto_19 rfl ?_
            obtain ⟨fs20, hO20, hK20⟩ := WT_obj hW id ha0
            obtain ⟨w20, hF20, y20, rfl, hl20, hh20⟩ := hK20.2 1 (.inl ((-2147483648), 2147483647)) rfl
            dsimp only at hl20 hh20
            refine J_get jf_X2_15 dX2_digestOnto_20 hO20 hF20 ?_
            refine J_icmp_ge (tgt := 61) dX2_digestOnto_23 (by decide) (fun c23 => ?_) (fun c23 => ?_)
            · refine J_iinc dX2_digestOnto_61 rfl j_inc1 rfl (by decide) ?_
              refine J_goto (tgt := 5) dX2_digestOnto_64 (by decide) ?_
              refine J.mask [true, true, false, true, false, true, false] ?_
              exact ih5  _ _ hW he ha0  (jdec_up (Int32.not_le.mp c11) (by assumption))
            · refine J_aload_n dX2_digestOnto_26 rfl ?_
              refine J_iload dX2_digestOnto_27 rfl ?_
              refine J_iload dX2_digestOnto_29 rfl ?_
              refine Jw_callV2 (q9 := (RX2, TX2, 9)) moX2_isHole jw_ml_X2_79 jw_im_X2_isHole jw_se_X2_isHole ha0 rfl rfl dX2_digestOnto_31 (w_X2_isHole (d - 1) _ _ _ _ (by omega) hW  ha0 ) (by omega) (Nat.zero_le _) (Nat.zero_le _) (Nat.le_of_ble_eq_true rfl) (fun r31 V31 h31 => ?_)
              obtain ⟨⟨y31, rfl, hl31, hh31⟩, hE31⟩ := h31
              have hE31 := hE31.symm
              subst hE31
              refine J_if_eq (tgt := 55) dX2_digestOnto_34 (by decide) (fun c34 => ?_) (fun c34 => ?_)
              · refine J_iinc dX2_digestOnto_55 rfl j_inc1 rfl (by decide) ?_
                refine J_goto (tgt := 17) dX2_digestOnto_58 (by decide) ?_
                refine J.mask [true, true, false, true, false, true, true] ?_
                exact ih17  _ _ hW he ha0  (jdec_up (Int32.not_le.mp c23) (by assumption))
              · refine J_ldc2 jw_k_X2_83 dX2_digestOnto_37 ?_
                refine J_lload_n dX2_digestOnto_40 rfl ?_
                refine J_lmul dX2_digestOnto_41 ?_
                refine J_iload dX2_digestOnto_42 rfl ?_
                refine J_aload_n dX2_digestOnto_44 rfl ?_
                refine J_get jf_X2_15 dX2_digestOnto_45 hO20 hF20 ?_
                refine J_iload dX2_digestOnto_48 rfl ?_
                refine J_imul dX2_digestOnto_50 ?_
                refine J_iadd dX2_digestOnto_51 ?_
                refine J_i2l dX2_digestOnto_52 rfl ?_
                refine J_ladd dX2_digestOnto_53 ?_
                refine J_lstore_n dX2_digestOnto_54 rfl (by decide) ?_
                refine J_iinc dX2_digestOnto_55 rfl j_inc1 rfl (by decide) ?_
                refine J_goto (tgt := 17) dX2_digestOnto_58 (by decide) ?_
                refine J.mask [true, true, false, true, false, true, true] ?_
                exact ih17  _ _ hW he ha0  (jdec_up (Int32.not_le.mp c23) (by assumption))
        refine J.mask [true, true, false, true, false, true, true] ?_
        exact L17 _  _ _ hW he ha0  (Nat.lt_succ_self _)
  refine J.mask [true, true, false, true, false, true, false] ?_
  exact L5 _  _ _ hW he ha0  (Nat.lt_succ_self _)
