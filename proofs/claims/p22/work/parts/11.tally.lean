set_option maxRecDepth 100000 in
set_option maxHeartbeats 4000000 in
theorem w_X4_cellOf {tS : jTS} (d : Nat) (V0 : jH) (a0 : Nat) (x1 : Int32) (x2 : Int32) (x3 : Int32)  (hd : 0 ≤ d) (hW : WT V0) (ha0 : jis V0 (.inr 2) a0)  : jTot tS mX4_cellOf d [.ref a0, .int x1, .int x2, .int x3] V0 0 0 (fun r V => rN r V ∧ V = V0) := by
  refine jTot.of_J [some (.ref a0), some (.int x1), some (.int x2), some (.int x3), none] moX4_cellOf (Nat.le_of_ble_eq_true rfl) rfl ?_
  have he : jeff [] V0 V0 := jeff.refl _ _
  refine J_iload_n dX4_cellOf_0 rfl ?_
  refine J_aload_n dX4_cellOf_1 rfl ?_
  obtain ⟨fs2, hO2, hK2⟩ := WT_obj hW id ha0
  obtain ⟨w2, hF2, y2, rfl, hl2, hh2⟩ := hK2.2 1 (.inl (0, 20)) rfl
  dsimp only at hl2 hh2
  refine J_get jf_X4_48 dX4_cellOf_2 hO2 hF2 ?_
  refine J_iadd dX4_cellOf_5 ?_
  refine J_aload_n dX4_cellOf_6 rfl ?_
  obtain ⟨w7, hF7, y7, rfl, hl7, hh7⟩ := hK2.2 2 (.inl ((-2147483648), 2147483647)) rfl
  dsimp only at hl7 hh7
  refine J_get jf_X4_51 dX4_cellOf_7 hO2 hF7 ?_
  refine J_iload_n dX4_cellOf_10 rfl ?_
  refine J_aload_n dX4_cellOf_11 rfl ?_
  refine J_get jf_X4_48 dX4_cellOf_12 hO2 hF2 ?_
  refine J_iadd dX4_cellOf_15 ?_
  refine J_imul dX4_cellOf_16 ?_
  refine J_iadd dX4_cellOf_17 ?_
  refine J_istore dX4_cellOf_18 rfl (by decide) ?_
  refine J_aload_n dX4_cellOf_20 rfl ?_
  obtain ⟨w21, hF21, y21, rfl, hl21, hh21⟩ := hK2.2 0 (.inl ((-2147483648), 2147483647)) rfl
  dsimp only at hl21 hh21
  refine J_get jf_X4_45 dX4_cellOf_21 hO2 hF21 ?_
  refine J_iconst (v := 3) dX4_cellOf_24 (by decide) ?_
  refine J_icmp_ne (tgt := 50) dX4_cellOf_25 (by decide) (fun c25 => ?_) (fun c25 => ?_)
  · refine J_iload dX4_cellOf_50 rfl ?_
    exact J_ret (r := some (.int _)) dX4_cellOf_52 ⟨rfl, _, rfl, rfl⟩ (⟨rN_of _, rfl⟩)
  · refine J_iload dX4_cellOf_28 rfl ?_
    refine J_aload_n dX4_cellOf_30 rfl ?_
    refine J_get jf_X4_51 dX4_cellOf_31 hO2 hF7 ?_
    refine J_aload_n dX4_cellOf_34 rfl ?_
    refine J_get jf_X4_51 dX4_cellOf_35 hO2 hF7 ?_
    refine J_imul dX4_cellOf_38 ?_
    refine J_iload_n dX4_cellOf_39 rfl ?_
    refine J_aload_n dX4_cellOf_40 rfl ?_
    refine J_get jf_X4_48 dX4_cellOf_41 hO2 hF2 ?_
    refine J_iadd dX4_cellOf_44 ?_
    refine J_imul dX4_cellOf_45 ?_
    refine J_iadd dX4_cellOf_46 ?_
    refine J_goto (tgt := 52) dX4_cellOf_47 (by decide) ?_
    exact J_ret (r := some (.int _)) dX4_cellOf_52 ⟨rfl, _, rfl, rfl⟩ (⟨rN_of _, rfl⟩)
set_option maxRecDepth 100000 in
set_option maxHeartbeats 4000000 in
theorem w_X4_isTaken {tS : jTS} (d : Nat) (V0 : jH) (a0 : Nat) (x1 : Int32)  (hd : 0 ≤ d) (hW : WT V0) (ha0 : jis V0 (.inr 2) a0)  : jTot tS mX4_isTaken d [.ref a0, .int x1] V0 0 0 (fun r V => (rI 0 1) r V ∧ V = V0) := by
  refine jTot.of_J [some (.ref a0), some (.int x1)] moX4_isTaken (Nat.le_of_ble_eq_true rfl) rfl ?_
  have he : jeff [] V0 V0 := jeff.refl _ _
  refine J_iload_n dX4_isTaken_0 rfl ?_
  refine J_if_lt (tgt := 22) dX4_isTaken_1 (by decide) (fun c1 => ?_) (fun c1 => ?_)
  · refine J_iconst (v := 1) dX4_isTaken_22 (by decide) ?_
    refine J_goto (tgt := 27) dX4_isTaken_23 (by decide) ?_
    exact J_ret (r := some (.int _)) dX4_isTaken_27 ⟨rfl, _, rfl, (by first | rfl | exact nar_b (by assumption) (by assumption))⟩ (⟨⟨_, rfl, by first | decide | assumption | omega, by first | decide | assumption | omega⟩, rfl⟩)
  · refine J_iload_n dX4_isTaken_4 rfl ?_
    refine J_aload_n dX4_isTaken_5 rfl ?_
    obtain ⟨fs6, hO6, hK6⟩ := WT_obj hW id ha0
    obtain ⟨w6, hF6, b6, rfl, hb6⟩ := hK6.2 3 (.inr (some (.inl 2))) rfl
    refine J_get jf_X4_54 dX4_isTaken_6 hO6 hF6 ?_
    obtain ⟨n9, f9, hA9, hN9, hM9, hv9⟩ := WT_arrI (r := (0, 1)) hW id rfl hb6
    refine J_alen (v := Int32.ofNat n9) dX4_isTaken_9 hA9 rfl rfl ?_
    refine J_icmp_ge (tgt := 22) dX4_isTaken_10 (by decide) (fun c10 => ?_) (fun c10 => ?_)
    · refine J_iconst (v := 1) dX4_isTaken_22 (by decide) ?_
      refine J_goto (tgt := 27) dX4_isTaken_23 (by decide) ?_
      exact J_ret (r := some (.int _)) dX4_isTaken_27 ⟨rfl, _, rfl, (by first | rfl | exact nar_b (by assumption) (by assumption))⟩ (⟨⟨_, rfl, by first | decide | assumption | omega, by first | decide | assumption | omega⟩, rfl⟩)
    · refine J_aload_n dX4_isTaken_13 rfl ?_
      refine J_get jf_X4_54 dX4_isTaken_14 hO6 hF6 ?_
      refine J_iload_n dX4_isTaken_17 rfl ?_
      refine Jw_zald dX4_isTaken_18 hA9 rfl hv9 (by first | exact vp_in_g (by assumption) (by assumption) (by assumption) | exact vp_in_g1 (by assumption) (by assumption) (by assumption) | exact vp_in_g2 (by assumption) (by assumption) (by assumption) | exact vp_in_g3 (by assumption) (by assumption) (by assumption) | exact vp_in_n (by omega) (by omega)) (fun y18 hl18 hh18 => ?_)
      refine J_if_eq (tgt := 26) dX4_isTaken_19 (by decide) (fun c19 => ?_) (fun c19 => ?_)
      · refine J_iconst (v := 0) dX4_isTaken_26 (by decide) ?_
        exact J_ret (r := some (.int _)) dX4_isTaken_27 ⟨rfl, _, rfl, (by first | rfl | exact nar_b (by assumption) (by assumption))⟩ (⟨⟨_, rfl, by first | decide | assumption | omega, by first | decide | assumption | omega⟩, rfl⟩)
      · refine J_iconst (v := 1) dX4_isTaken_22 (by decide) ?_
        refine J_goto (tgt := 27) dX4_isTaken_23 (by decide) ?_
        exact J_ret (r := some (.int _)) dX4_isTaken_27 ⟨rfl, _, rfl, (by first | rfl | exact nar_b (by assumption) (by assumption))⟩ (⟨⟨_, rfl, by first | decide | assumption | omega, by first | decide | assumption | omega⟩, rfl⟩)
set_option maxRecDepth 100000 in
set_option maxHeartbeats 4000000 in
theorem w_X4_setTaken {tS : jTS} (d : Nat) (V0 : jH) (a0 : Nat) (x1 : Int32) (x2 : Int32)  (hd : 0 ≤ d) (hW : WT V0) (ha0 : jis V0 (.inr 2) a0) (hl2 : 0 ≤ x2.toInt) (hh2 : x2.toInt ≤ 1)  : jTot tS mX4_setTaken d [.ref a0, .int x1, .int x2] V0 0 0 (jPost [.inl 2] V0 rV) := by
  refine jTot.of_J [some (.ref a0), some (.int x1), some (.int x2)] moX4_setTaken (Nat.le_of_ble_eq_true rfl) rfl ?_
  have he : jeff [.inl 2] V0 V0 := jeff.refl _ _
  refine J_iload_n dX4_setTaken_0 rfl ?_
  refine J_if_lt (tgt := 20) dX4_setTaken_1 (by decide) (fun c1 => ?_) (fun c1 => ?_)
  · exact J_ret (r := none) dX4_setTaken_20 ⟨rfl, rfl⟩ (⟨hW, he, rfl⟩)
  · refine J_iload_n dX4_setTaken_4 rfl ?_
    refine J_aload_n dX4_setTaken_5 rfl ?_
    obtain ⟨fs6, hO6, hK6⟩ := WT_obj hW id ha0
    obtain ⟨w6, hF6, b6, rfl, hb6⟩ := hK6.2 3 (.inr (some (.inl 2))) rfl
    refine J_get jf_X4_54 dX4_setTaken_6 hO6 hF6 ?_
    obtain ⟨n9, f9, hA9, hN9, hM9, hv9⟩ := WT_arrI (r := (0, 1)) hW id rfl hb6
    refine J_alen (v := Int32.ofNat n9) dX4_setTaken_9 hA9 rfl rfl ?_
    refine J_icmp_ge (tgt := 20) dX4_setTaken_10 (by decide) (fun c10 => ?_) (fun c10 => ?_)
    · exact J_ret (r := none) dX4_setTaken_20 ⟨rfl, rfl⟩ (⟨hW, he, rfl⟩)
    · refine J_aload_n dX4_setTaken_13 rfl ?_
      refine J_get jf_X4_54 dX4_setTaken_14 hO6 hF6 ?_
      refine J_iload_n dX4_setTaken_17 rfl ?_
      refine J_iload_n dX4_setTaken_18 rfl ?_
      refine Jw_zast hW id dX4_setTaken_19 hA9 rfl rfl (by first | exact vp_in_g (by assumption) (by assumption) (by assumption) | exact vp_in_g1 (by assumption) (by assumption) (by assumption) | exact vp_in_g2 (by assumption) (by assumption) (by assumption) | exact vp_in_g3 (by assumption) (by assumption) (by assumption) | exact vp_in_n (by omega) (by omega)) (by first | decide | assumption | omega) (by first | decide | assumption | omega) (by first | rfl | exact vp_nar_b (by assumption) (by assumption)) (fun V19 hW hx19 hy19 => ?_)
      have he := he.trans (hx19.sub (jsub_of rfl))
      have ha0 := ha0.mono hx19.1
      have hb6 := hb6.mono hx19.1
      have hO6 := hx19.2 _ _ hO6 (jnot_of rfl)
      have hK6 := hK6.mono hx19.1
      exact J_ret (r := none) dX4_setTaken_20 ⟨rfl, rfl⟩ (⟨hW, he, rfl⟩)
set_option maxRecDepth 100000 in
set_option maxHeartbeats 4000000 in
theorem w_X4_score {tS : jTS} (d : Nat) (V0 : jH) (a0 : Nat) (x1 : Int32) (x2 : Int32) (x3 : Int32) (x4 : Int32)  (hd : 2 ≤ d) (hW : WT V0) (ha0 : jis V0 (.inr 2) a0)  : jTot tS mX4_score d [.ref a0, .int x1, .int x2, .int x3, .int x4] V0 0 0 (jPost [.inr 2, .inl 1, .inl 8, .inl 37, .inl 38] V0 rV) := by
  refine jTot.of_J [some (.ref a0), some (.int x1), some (.int x2), some (.int x3), some (.int x4)] moX4_score (Nat.le_of_ble_eq_true rfl) rfl ?_
  have he : jeff [.inr 2, .inl 1, .inl 8, .inl 37, .inl 38] V0 V0 := jeff.refl _ _
  refine J_aload_n dX4_score_0 rfl ?_
  obtain ⟨fs1, hO1, hK1⟩ := WT_obj hW id ha0
  obtain ⟨w1, hF1, y1, rfl, hl1, hh1⟩ := hK1.2 10 (.inl (0, 20)) rfl
  dsimp only at hl1 hh1
  refine J_get jf_X4_31 dX4_score_1 hO1 hF1 ?_
  refine J_if_lt (tgt := 55) dX4_score_4 (by decide) (fun c4 => ?_) (fun c4 => ?_)
  · exact J_ret (r := none) dX4_score_55 ⟨rfl, rfl⟩ (⟨hW, he, rfl⟩)
  · refine J_aload_n dX4_score_7 rfl ?_
    refine J_get jf_X4_31 dX4_score_8 hO1 hF1 ?_
    refine J_aload_n dX4_score_11 rfl ?_
    obtain ⟨w12, hF12, b12, rfl, hb12⟩ := hK1.2 4 (.inr (some (.inl 8))) rfl
    refine J_get jf_X4_9 dX4_score_12 hO1 hF12 ?_
    obtain ⟨n15, f15, hA15, hN15, hM15, hv15⟩ := WT_arrI (r := (-2147483648, 2147483647)) hW id rfl hb12
    obtain rfl := hM15 21 rfl
    refine J_alen (v := Int32.ofNat 21) dX4_score_15 hA15 rfl rfl ?_
    refine J_icmp_ge (tgt := 55) dX4_score_16 (by decide) (fun c16 => ?_) (fun c16 => ?_)
    · exact J_ret (r := none) dX4_score_55 ⟨rfl, rfl⟩ (⟨hW, he, rfl⟩)
    · refine J_aload_n dX4_score_19 rfl ?_
      refine J_get jf_X4_31 dX4_score_20 hO1 hF1 ?_
      refine J_aload_n dX4_score_23 rfl ?_
      obtain ⟨w24, hF24, b24, rfl, hb24⟩ := hK1.2 5 (.inr (some (.inl 1))) rfl
      refine J_get jf_X4_15 dX4_score_24 hO1 hF24 ?_
      obtain ⟨n27, f27, hA27, hN27, hM27⟩ := WT_arrL hW id rfl hb24
      obtain rfl := hM27 21 rfl
      refine J_alen (v := Int32.ofNat 21) dX4_score_27 hA27 rfl rfl ?_
      refine J_icmp_ge (tgt := 55) dX4_score_28 (by decide) (fun c28 => ?_) (fun c28 => ?_)
      · exact J_ret (r := none) dX4_score_55 ⟨rfl, rfl⟩ (⟨hW, he, rfl⟩)
      · refine J_aload_n dX4_score_31 rfl ?_
        refine J_get jf_X4_31 dX4_score_32 hO1 hF1 ?_
        refine J_aload_n dX4_score_35 rfl ?_
        obtain ⟨w36, hF36, b36, rfl, hb36⟩ := hK1.2 6 (.inr (some (.inl 37))) rfl
        refine J_get jf_X4_19 dX4_score_36 hO1 hF36 ?_
        obtain ⟨n39, f39, hA39, hN39, hM39, hv39⟩ := WT_arrI (r := (-2147483648, 2147483647)) hW id rfl hb36
        obtain rfl := hM39 21 rfl
        refine J_alen (v := Int32.ofNat 21) dX4_score_39 hA39 rfl rfl ?_
        refine J_icmp_ge (tgt := 55) dX4_score_40 (by decide) (fun c40 => ?_) (fun c40 => ?_)
        · exact J_ret (r := none) dX4_score_55 ⟨rfl, rfl⟩ (⟨hW, he, rfl⟩)
        · refine J_aload_n dX4_score_43 rfl ?_
          refine J_get jf_X4_31 dX4_score_44 hO1 hF1 ?_
          refine J_aload_n dX4_score_47 rfl ?_
          obtain ⟨w48, hF48, b48, rfl, hb48⟩ := hK1.2 7 (.inr (some (.inl 38))) rfl
          refine J_get jf_X4_22 dX4_score_48 hO1 hF48 ?_
          obtain ⟨n51, f51, hA51, hN51, hM51, hv51⟩ := WT_arrI (r := (-2147483648, 2147483647)) hW id rfl hb48
          obtain rfl := hM51 21 rfl
          refine J_alen (v := Int32.ofNat 21) dX4_score_51 hA51 rfl rfl ?_
          refine J_icmp_lt (tgt := 56) dX4_score_52 (by decide) (fun c52 => ?_) (fun c52 => ?_)
          · refine J_aload_n dX4_score_56 rfl ?_
            refine J_get jf_X4_9 dX4_score_57 hO1 hF12 ?_
            refine J_aload_n dX4_score_60 rfl ?_
            refine J_get jf_X4_31 dX4_score_61 hO1 hF1 ?_
            refine J_dup2 dX4_score_64 rfl rfl ?_
            refine Jw_iald dX4_score_65 hA15 rfl hv15 (vp_in_n (by omega) (by have h9 := jlt.mp (Int32.not_le.mp c16); have h8 : (Int32.ofNat 21).toInt = 21 := rfl; omega)) (fun y65 hl65 hh65 => ?_)
            refine J_iconst (v := 1) dX4_score_66 (by decide) ?_
            refine J_iadd dX4_score_67 ?_
            refine Jw_iast hW id dX4_score_68 hA15 rfl rfl (vp_in_n (by omega) (by have h9 := jlt.mp (Int32.not_le.mp c16); have h8 : (Int32.ofNat 21).toInt = 21 := rfl; omega)) (j_rng _).1 (j_rng _).2 (fun V68 hW hx68 hy68 => ?_)
            have he := he.trans (hx68.sub (jsub_of rfl))
            have ha0 := ha0.mono hx68.1
            have hb12 := hb12.mono hx68.1
            have hb24 := hb24.mono hx68.1
            have hb36 := hb36.mono hx68.1
            have hb48 := hb48.mono hx68.1
            have hO1 := hx68.2 _ _ hO1 (jnot_of rfl)
            have hK1 := hK1.mono hx68.1
            have hA27 := hx68.2 _ _ hA27 (jnot_of rfl)
            have hA39 := hx68.2 _ _ hA39 (jnot_of rfl)
            have hA51 := hx68.2 _ _ hA51 (jnot_of rfl)
            refine J_aload_n dX4_score_69 rfl ?_
            refine J_get jf_X4_15 dX4_score_70 hO1 hF24 ?_
            refine J_aload_n dX4_score_73 rfl ?_
            refine J_get jf_X4_31 dX4_score_74 hO1 hF1 ?_
            refine J_dup2 dX4_score_77 rfl rfl ?_
            refine J_lald dX4_score_78 hA27 rfl (vp_in_n (by omega) (by have h9 := jlt.mp (Int32.not_le.mp c16); have h8 : (Int32.ofNat 21).toInt = 21 := rfl; omega)) ?_
            refine J_aload_n dX4_score_79 rfl ?_
            obtain ⟨w80, hF80, y80, rfl, hl80, hh80⟩ := hK1.2 0 (.inl ((-2147483648), 2147483647)) rfl
            dsimp only at hl80 hh80
            refine J_get jf_X4_45 dX4_score_80 hO1 hF80 ?_
            refine J_iload_n dX4_score_83 rfl ?_
            refine J_iload_n dX4_score_84 rfl ?_
            refine J_iload_n dX4_score_85 rfl ?_
            refine J_callS4 moX0_square jw_ml_X4_108 jw_st_X0_square dX4_score_86 (w_X0_square (d - 1) _ _ _ _ _ (by omega)    ) (by omega) (Nat.zero_le _) (Nat.zero_le _) (Nat.le_of_ble_eq_true rfl) (fun r86 V86 h86 => ?_)
            obtain ⟨⟨y86, rfl, hl86, hh86⟩, hE86⟩ := h86
            have hE86 := hE86.symm
            subst hE86
            refine J_i2l dX4_score_89 rfl ?_
            refine J_ladd dX4_score_90 ?_
            refine Jw_last hW id dX4_score_91 hA27 rfl rfl (vp_in_n (by omega) (by have h9 := jlt.mp (Int32.not_le.mp c16); have h8 : (Int32.ofNat 21).toInt = 21 := rfl; omega)) (fun V91 hW hx91 hy91 => ?_)
            have he := he.trans (hx91.sub (jsub_of rfl))
            have ha0 := ha0.mono hx91.1
            have hb12 := hb12.mono hx91.1
            have hb24 := hb24.mono hx91.1
            have hb36 := hb36.mono hx91.1
            have hb48 := hb48.mono hx91.1
            have hO1 := hx91.2 _ _ hO1 (jnot_of rfl)
            have hK1 := hK1.mono hx91.1
            have hA39 := hx91.2 _ _ hA39 (jnot_of rfl)
            have hA51 := hx91.2 _ _ hA51 (jnot_of rfl)
            refine J_aload_n dX4_score_92 rfl ?_
            refine J_get jf_X4_45 dX4_score_93 hO1 hF80 ?_
            refine J_iload_n dX4_score_96 rfl ?_
            refine J_iload_n dX4_score_97 rfl ?_
            refine J_iload_n dX4_score_98 rfl ?_
            refine J_callS4 moX0_isBesideBeginning jw_ml_X4_111 jw_st_X0_isBesideBeginning dX4_score_99 (w_X0_isBesideBeginning (d - 1) _ _ _ _ _ (by omega)    ) (by omega) (Nat.zero_le _) (Nat.zero_le _) (Nat.le_of_ble_eq_true rfl) (fun r99 V99 h99 => ?_)
            obtain ⟨⟨y99, rfl, hl99, hh99⟩, hE99⟩ := h99
            have hE99 := hE99.symm
            subst hE99
            refine J_if_eq (tgt := 118) dX4_score_102 (by decide) (fun c102 => ?_) (fun c102 => ?_)
            · refine J_iload dX4_score_118 rfl ?_
              refine J_iload_n dX4_score_120 rfl ?_
              refine J_icmp_ne (tgt := 137) dX4_score_121 (by decide) (fun c121 => ?_) (fun c121 => ?_)
              · refine J_aload_n dX4_score_137 rfl ?_
                refine J_aload_n dX4_score_138 rfl ?_
                obtain ⟨w139, hF139, y139, rfl, hl139, hh139⟩ := hK1.2 12 (.inl ((-2147483648), 2147483647)) rfl
                dsimp only at hl139 hh139
                refine J_get jf_X4_38 dX4_score_139 hO1 hF139 ?_
                refine J_aload_n dX4_score_142 rfl ?_
                refine J_get jf_X4_9 dX4_score_143 hO1 hF12 ?_
                refine J_aload_n dX4_score_146 rfl ?_
                refine J_get jf_X4_31 dX4_score_147 hO1 hF1 ?_
                obtain ⟨n150, f150, hA150, hN150, hM150, hv150⟩ := WT_arrI (r := (-2147483648, 2147483647)) hW id rfl hb12
                obtain rfl := hM150 21 rfl
                refine Jw_iald dX4_score_150 hA150 rfl hv150 (vp_in_n (by omega) (by have h9 := jlt.mp (Int32.not_le.mp c16); have h8 : (Int32.ofNat 21).toInt = 21 := rfl; omega)) (fun y150 hl150 hh150 => ?_)
                refine J_iadd dX4_score_151 ?_
                refine J_ldc jw_k_X4_115 dX4_score_152 ?_
                refine J_icmp_le (tgt := 161) dX4_score_154 (by decide) (fun c154 => ?_) (fun c154 => ?_)
                · refine J_iconst (v := 0) dX4_score_161 (by decide) ?_
                  refine Jw_putI hW id ha0 rfl jf_X4_41 jt_X4_13 dX4_score_162 (by first | decide | assumption | omega) (by first | decide | assumption | omega) (by first | rfl | exact nar_b (by assumption) (by assumption)) (by first | rfl | exact fit_b (by assumption) (by assumption)) (fun V162 hW hx162 => ?_)
                  have he := he.trans (hx162.sub (jsub_of rfl))
                  have ha0 := ha0.mono hx162.1
                  exact J_ret (r := none) dX4_score_165 ⟨rfl, rfl⟩ (⟨hW, he, rfl⟩)
                · refine J_iconst (v := 1) dX4_score_157 (by decide) ?_
                  refine J_goto (tgt := 162) dX4_score_158 (by decide) ?_
                  refine Jw_putI hW id ha0 rfl jf_X4_41 jt_X4_13 dX4_score_162 (by first | decide | assumption | omega) (by first | decide | assumption | omega) (by first | rfl | exact nar_b (by assumption) (by assumption)) (by first | rfl | exact fit_b (by assumption) (by assumption)) (fun V162 hW hx162 => ?_)
                  have he := he.trans (hx162.sub (jsub_of rfl))
                  have ha0 := ha0.mono hx162.1
                  exact J_ret (r := none) dX4_score_165 ⟨rfl, rfl⟩ (⟨hW, he, rfl⟩)
              · refine J_aload_n dX4_score_124 rfl ?_
                refine J_get jf_X4_22 dX4_score_125 hO1 hF48 ?_
                refine J_aload_n dX4_score_128 rfl ?_
                refine J_get jf_X4_31 dX4_score_129 hO1 hF1 ?_
                refine J_dup2 dX4_score_132 rfl rfl ?_
                refine Jw_iald dX4_score_133 hA51 rfl hv51 (vp_in_n (by omega) (by have h9 := jlt.mp (Int32.not_le.mp c16); have h8 : (Int32.ofNat 21).toInt = 21 := rfl; omega)) (fun y133 hl133 hh133 => ?_)
                refine J_iconst (v := 1) dX4_score_134 (by decide) ?_
                refine J_iadd dX4_score_135 ?_
                refine Jw_iast hW id dX4_score_136 hA51 rfl rfl (vp_in_n (by omega) (by have h9 := jlt.mp (Int32.not_le.mp c16); have h8 : (Int32.ofNat 21).toInt = 21 := rfl; omega)) (j_rng _).1 (j_rng _).2 (fun V136 hW hx136 hy136 => ?_)
                have he := he.trans (hx136.sub (jsub_of rfl))
                have ha0 := ha0.mono hx136.1
                have hb12 := hb12.mono hx136.1
                have hb24 := hb24.mono hx136.1
                have hb36 := hb36.mono hx136.1
                have hb48 := hb48.mono hx136.1
                have hO1 := hx136.2 _ _ hO1 (jnot_of rfl)
                have hK1 := hK1.mono hx136.1
                have hA39 := hx136.2 _ _ hA39 (jnot_of rfl)
                refine J_aload_n dX4_score_137 rfl ?_
                refine J_aload_n dX4_score_138 rfl ?_
                obtain ⟨w139, hF139, y139, rfl, hl139, hh139⟩ := hK1.2 12 (.inl ((-2147483648), 2147483647)) rfl
                dsimp only at hl139 hh139
                refine J_get jf_X4_38 dX4_score_139 hO1 hF139 ?_
                refine J_aload_n dX4_score_142 rfl ?_
                refine J_get jf_X4_9 dX4_score_143 hO1 hF12 ?_
                refine J_aload_n dX4_score_146 rfl ?_
                refine J_get jf_X4_31 dX4_score_147 hO1 hF1 ?_
                obtain ⟨n150, f150, hA150, hN150, hM150, hv150⟩ := WT_arrI (r := (-2147483648, 2147483647)) hW id rfl hb12
                obtain rfl := hM150 21 rfl
                refine Jw_iald dX4_score_150 hA150 rfl hv150 (vp_in_n (by omega) (by have h9 := jlt.mp (Int32.not_le.mp c16); have h8 : (Int32.ofNat 21).toInt = 21 := rfl; omega)) (fun y150 hl150 hh150 => ?_)
                refine J_iadd dX4_score_151 ?_
                refine J_ldc jw_k_X4_115 dX4_score_152 ?_
                refine J_icmp_le (tgt := 161) dX4_score_154 (by decide) (fun c154 => ?_) (fun c154 => ?_)
                · refine J_iconst (v := 0) dX4_score_161 (by decide) ?_
                  refine Jw_putI hW id ha0 rfl jf_X4_41 jt_X4_13 dX4_score_162 (by first | decide | assumption | omega) (by first | decide | assumption | omega) (by first | rfl | exact nar_b (by assumption) (by assumption)) (by first | rfl | exact fit_b (by assumption) (by assumption)) (fun V162 hW hx162 => ?_)
                  have he := he.trans (hx162.sub (jsub_of rfl))
                  have ha0 := ha0.mono hx162.1
                  exact J_ret (r := none) dX4_score_165 ⟨rfl, rfl⟩ (⟨hW, he, rfl⟩)
                · refine J_iconst (v := 1) dX4_score_157 (by decide) ?_
                  refine J_goto (tgt := 162) dX4_score_158 (by decide) ?_
                  refine Jw_putI hW id ha0 rfl jf_X4_41 jt_X4_13 dX4_score_162 (by first | decide | assumption | omega) (by first | decide | assumption | omega) (by first | rfl | exact nar_b (by assumption) (by assumption)) (by first | rfl | exact fit_b (by assumption) (by assumption)) (fun V162 hW hx162 => ?_)
                  have he := he.trans (hx162.sub (jsub_of rfl))
                  have ha0 := ha0.mono hx162.1
                  exact J_ret (r := none) dX4_score_165 ⟨rfl, rfl⟩ (⟨hW, he, rfl⟩)
            · refine J_aload_n dX4_score_105 rfl ?_
              refine J_get jf_X4_19 dX4_score_106 hO1 hF36 ?_
              refine J_aload_n dX4_score_109 rfl ?_
              refine J_get jf_X4_31 dX4_score_110 hO1 hF1 ?_
              refine J_dup2 dX4_score_113 rfl rfl ?_
              refine Jw_iald dX4_score_114 hA39 rfl hv39 (vp_in_n (by omega) (by have h9 := jlt.mp (Int32.not_le.mp c16); have h8 : (Int32.ofNat 21).toInt = 21 := rfl; omega)) (fun y114 hl114 hh114 => ?_)
              refine J_iconst (v := 1) dX4_score_115 (by decide) ?_
              refine J_iadd dX4_score_116 ?_
              refine Jw_iast hW id dX4_score_117 hA39 rfl rfl (vp_in_n (by omega) (by have h9 := jlt.mp (Int32.not_le.mp c16); have h8 : (Int32.ofNat 21).toInt = 21 := rfl; omega)) (j_rng _).1 (j_rng _).2 (fun V117 hW hx117 hy117 => ?_)
              have he := he.trans (hx117.sub (jsub_of rfl))
              have ha0 := ha0.mono hx117.1
              have hb12 := hb12.mono hx117.1
              have hb24 := hb24.mono hx117.1
              have hb36 := hb36.mono hx117.1
              have hb48 := hb48.mono hx117.1
              have hO1 := hx117.2 _ _ hO1 (jnot_of rfl)
              have hK1 := hK1.mono hx117.1
              have hA51 := hx117.2 _ _ hA51 (jnot_of rfl)
              refine J_iload dX4_score_118 rfl ?_
              refine J_iload_n dX4_score_120 rfl ?_
              refine J_icmp_ne (tgt := 137) dX4_score_121 (by decide) (fun c121 => ?_) (fun c121 => ?_)
              · refine J_aload_n dX4_score_137 rfl ?_
                refine J_aload_n dX4_score_138 rfl ?_
                obtain ⟨w139, hF139, y139, rfl, hl139, hh139⟩ := hK1.2 12 (.inl ((-2147483648), 2147483647)) rfl
                dsimp only at hl139 hh139
                refine J_get jf_X4_38 dX4_score_139 hO1 hF139 ?_
                refine J_aload_n dX4_score_142 rfl ?_
                refine J_get jf_X4_9 dX4_score_143 hO1 hF12 ?_
                refine J_aload_n dX4_score_146 rfl ?_
                refine J_get jf_X4_31 dX4_score_147 hO1 hF1 ?_
                obtain ⟨n150, f150, hA150, hN150, hM150, hv150⟩ := WT_arrI (r := (-2147483648, 2147483647)) hW id rfl hb12
                obtain rfl := hM150 21 rfl
                refine Jw_iald dX4_score_150 hA150 rfl hv150 (vp_in_n (by omega) (by have h9 := jlt.mp (Int32.not_le.mp c16); have h8 : (Int32.ofNat 21).toInt = 21 := rfl; omega)) (fun y150 hl150 hh150 => ?_)
                refine J_iadd dX4_score_151 ?_
                refine J_ldc jw_k_X4_115 dX4_score_152 ?_
                refine J_icmp_le (tgt := 161) dX4_score_154 (by decide) (fun c154 => ?_) (fun c154 => ?_)
                · refine J_iconst (v := 0) dX4_score_161 (by decide) ?_
                  refine Jw_putI hW id ha0 rfl jf_X4_41 jt_X4_13 dX4_score_162 (by first | decide | assumption | omega) (by first | decide | assumption | omega) (by first | rfl | exact nar_b (by assumption) (by assumption)) (by first | rfl | exact fit_b (by assumption) (by assumption)) (fun V162 hW hx162 => ?_)
                  have he := he.trans (hx162.sub (jsub_of rfl))
                  have ha0 := ha0.mono hx162.1
                  exact J_ret (r := none) dX4_score_165 ⟨rfl, rfl⟩ (⟨hW, he, rfl⟩)
                · refine J_iconst (v := 1) dX4_score_157 (by decide) ?_
                  refine J_goto (tgt := 162) dX4_score_158 (by decide) ?_
                  refine Jw_putI hW id ha0 rfl jf_X4_41 jt_X4_13 dX4_score_162 (by first | decide | assumption | omega) (by first | decide | assumption | omega) (by first | rfl | exact nar_b (by assumption) (by assumption)) (by first | rfl | exact fit_b (by assumption) (by assumption)) (fun V162 hW hx162 => ?_)
                  have he := he.trans (hx162.sub (jsub_of rfl))
                  have ha0 := ha0.mono hx162.1
                  exact J_ret (r := none) dX4_score_165 ⟨rfl, rfl⟩ (⟨hW, he, rfl⟩)
              · refine J_aload_n dX4_score_124 rfl ?_
                refine J_get jf_X4_22 dX4_score_125 hO1 hF48 ?_
                refine J_aload_n dX4_score_128 rfl ?_
                refine J_get jf_X4_31 dX4_score_129 hO1 hF1 ?_
                refine J_dup2 dX4_score_132 rfl rfl ?_
                refine Jw_iald dX4_score_133 hA51 rfl hv51 (vp_in_n (by omega) (by have h9 := jlt.mp (Int32.not_le.mp c16); have h8 : (Int32.ofNat 21).toInt = 21 := rfl; omega)) (fun y133 hl133 hh133 => ?_)
                refine J_iconst (v := 1) dX4_score_134 (by decide) ?_
                refine J_iadd dX4_score_135 ?_
                refine Jw_iast hW id dX4_score_136 hA51 rfl rfl (vp_in_n (by omega) (by have h9 := jlt.mp (Int32.not_le.mp c16); have h8 : (Int32.ofNat 21).toInt = 21 := rfl; omega)) (j_rng _).1 (j_rng _).2 (fun V136 hW hx136 hy136 => ?_)
                have he := he.trans (hx136.sub (jsub_of rfl))
                have ha0 := ha0.mono hx136.1
                have hb12 := hb12.mono hx136.1
                have hb24 := hb24.mono hx136.1
                have hb36 := hb36.mono hx136.1
                have hb48 := hb48.mono hx136.1
                have hO1 := hx136.2 _ _ hO1 (jnot_of rfl)
                have hK1 := hK1.mono hx136.1
                refine J_aload_n dX4_score_137 rfl ?_
                refine J_aload_n dX4_score_138 rfl ?_
                obtain ⟨w139, hF139, y139, rfl, hl139, hh139⟩ := hK1.2 12 (.inl ((-2147483648), 2147483647)) rfl
                dsimp only at hl139 hh139
                refine J_get jf_X4_38 dX4_score_139 hO1 hF139 ?_
                refine J_aload_n dX4_score_142 rfl ?_
                refine J_get jf_X4_9 dX4_score_143 hO1 hF12 ?_
                refine J_aload_n dX4_score_146 rfl ?_
                refine J_get jf_X4_31 dX4_score_147 hO1 hF1 ?_
                obtain ⟨n150, f150, hA150, hN150, hM150, hv150⟩ := WT_arrI (r := (-2147483648, 2147483647)) hW id rfl hb12
                obtain rfl := hM150 21 rfl
                refine Jw_iald dX4_score_150 hA150 rfl hv150 (vp_in_n (by omega) (by have h9 := jlt.mp (Int32.not_le.mp c16); have h8 : (Int32.ofNat 21).toInt = 21 := rfl; omega)) (fun y150 hl150 hh150 => ?_)
                refine J_iadd dX4_score_151 ?_
                refine J_ldc jw_k_X4_115 dX4_score_152 ?_
                refine J_icmp_le (tgt := 161) dX4_score_154 (by decide) (fun c154 => ?_) (fun c154 => ?_)
                · refine J_iconst (v := 0) dX4_score_161 (by decide) ?_
                  refine Jw_putI hW id ha0 rfl jf_X4_41 jt_X4_13 dX4_score_162 (by first | decide | assumption | omega) (by first | decide | assumption | omega) (by first | rfl | exact nar_b (by assumption) (by assumption)) (by first | rfl | exact fit_b (by assumption) (by assumption)) (fun V162 hW hx162 => ?_)
                  have he := he.trans (hx162.sub (jsub_of rfl))
                  have ha0 := ha0.mono hx162.1
                  exact J_ret (r := none) dX4_score_165 ⟨rfl, rfl⟩ (⟨hW, he, rfl⟩)
                · refine J_iconst (v := 1) dX4_score_157 (by decide) ?_
                  refine J_goto (tgt := 162) dX4_score_158 (by decide) ?_
                  refine Jw_putI hW id ha0 rfl jf_X4_41 jt_X4_13 dX4_score_162 (by first | decide | assumption | omega) (by first | decide | assumption | omega) (by first | rfl | exact nar_b (by assumption) (by assumption)) (by first | rfl | exact fit_b (by assumption) (by assumption)) (fun V162 hW hx162 => ?_)
                  have he := he.trans (hx162.sub (jsub_of rfl))
                  have ha0 := ha0.mono hx162.1
                  exact J_ret (r := none) dX4_score_165 ⟨rfl, rfl⟩ (⟨hW, he, rfl⟩)
          · exact J_ret (r := none) dX4_score_55 ⟨rfl, rfl⟩ (⟨hW, he, rfl⟩)
set_option maxRecDepth 100000 in
set_option maxHeartbeats 4000000 in
theorem w_X4_extend {tS : jTS} : ∀ (K d : Nat) (V0 : jH) (a0 : Nat) (x1 : Int32) (x2 : Int32) (x3 : Int32) (x4 : Int32) (x5 : Int32), 3 + K ≤ d → WT V0 → jis V0 (.inr 2) a0 → 0 ≤ x1.toInt → x1.toInt ≤ 20 → (21 - x1.toInt).toNat < K → jTot tS mX4_extend d [.ref a0, .int x1, .int x2, .int x3, .int x4, .int x5] V0 0 0 (jPost [.inr 2, .inl 1, .inl 2, .inl 8, .inl 37, .inl 38] V0 rV) := by
  intro K
  induction K with
  | zero => intro d V0 a0 x1 x2 x3 x4 x5 hd hW ha0 hl1 hh1 hrk; exact absurd hrk (Nat.not_lt_zero _)
  | succ K IH =>
  intro d V0 a0 x1 x2 x3 x4 x5 hd hW ha0 hl1 hh1 hrk
  refine jTot.of_J [some (.ref a0), some (.int x1), some (.int x2), some (.int x3), some (.int x4), some (.int x5), none, none, none, none, none, none, none, none] moX4_extend (Nat.le_of_ble_eq_true rfl) rfl ?_
  have he : jeff [.inr 2, .inl 1, .inl 2, .inl 8, .inl 37, .inl 38] V0 V0 := jeff.refl _ _
  refine J_aload_n dX4_extend_0 rfl ?_
  obtain ⟨fs1, hO1, hK1⟩ := WT_obj hW id ha0
  obtain ⟨w1, hF1, y1, rfl, hl1, hh1⟩ := hK1.2 0 (.inl ((-2147483648), 2147483647)) rfl
  dsimp only at hl1 hh1
  refine J_get jf_X4_45 dX4_extend_1 hO1 hF1 ?_
  refine J_istore dX4_extend_4 rfl (by decide) ?_
  refine J_iload dX4_extend_6 rfl ?_
  refine J_callS1 moX0_directions jw_ml_X4_78 jw_st_X0_directions dX4_extend_8 (w_X0_directions (d - 1) _ _ (by omega)    ) (by omega) (Nat.zero_le _) (Nat.zero_le _) (Nat.le_of_ble_eq_true rfl) (fun r8 V8 h8 => ?_)
  obtain ⟨⟨y8, rfl, hl8, hh8⟩, hE8⟩ := h8
  have hE8 := hE8.symm
  subst hE8
  refine J_istore dX4_extend_11 rfl (by decide) ?_
  refine J_iconst (v := 0) dX4_extend_13 (by decide) ?_
  refine J_istore dX4_extend_14 rfl (by decide) ?_
  have L16 : ∀ (N : Nat) (V : jH) (i6 : Int32) (i7 : Int32) (i8 : Int32), WT V → jeff [.inr 2, .inl 1, .inl 2, .inl 8, .inl 37, .inl 38] V0 V → jis V (.inr 2) a0 → (2147483648 - i8.toInt).toNat < N → J tS mX4_extend d 16 [some (.ref a0), some (.int x1), some (.int x2), some (.int x3), some (.int x4), some (.int x5), some (.int i6), some (.int i7), some (.int i8), none, none, none, none, none] [] V 0 0 (jPost [.inr 2, .inl 1, .inl 2, .inl 8, .inl 37, .inl 38] V0 rV) := by
    intro N
    induction N with
    | zero => intro V i6 i7 i8 hW he ha0  hm; exact absurd hm (Nat.not_lt_zero _)
    | succ N ih =>
      intro V i6 i7 i8 hW he ha0  hm
      have ih16 := ih
      refine J_iload dX4_extend_16 rfl ?_
      refine J_iload dX4_extend_18 rfl ?_
      refine J_icmp_ge (tgt := 170) dX4_extend_20 (by decide) (fun c20 => ?_) (fun c20 => ?_)
      · exact J_ret (r := none) dX4_extend_170 ⟨rfl, rfl⟩ (⟨hW, he, rfl⟩)
      · refine J_aload_n dX4_extend_23 rfl ?_
        obtain ⟨fs24, hO24, hK24⟩ := WT_obj hW id ha0
        obtain ⟨w24, hF24, y24, rfl, hl24, hh24⟩ := hK24.2 13 (.inl (0, 1)) rfl
        dsimp only at hl24 hh24
        refine J_get jf_X4_41 dX4_extend_24 hO24 hF24 ?_
        refine J_if_ne (tgt := 170) dX4_extend_27 (by decide) (fun c27 => ?_) (fun c27 => ?_)
        · exact J_ret (r := none) dX4_extend_170 ⟨rfl, rfl⟩ (⟨hW, he, rfl⟩)
        · refine J_iload_n dX4_extend_30 rfl ?_
          refine J_iload dX4_extend_31 rfl ?_
          refine J_iload dX4_extend_33 rfl ?_
          refine J_callS2 moX0_shiftX jw_ml_X4_84 jw_st_X0_shiftX dX4_extend_35 (w_X0_shiftX (d - 1) _ _ _ (by omega)    ) (by omega) (Nat.zero_le _) (Nat.zero_le _) (Nat.le_of_ble_eq_true rfl) (fun r35 V35 h35 => ?_)
          obtain ⟨⟨y35, rfl, hl35, hh35⟩, hE35⟩ := h35
          have hE35 := hE35.symm
          subst hE35
          refine J_iadd dX4_extend_38 ?_
          refine J_istore dX4_extend_39 rfl (by decide) ?_
          refine J_iload_n dX4_extend_41 rfl ?_
          refine J_iload dX4_extend_42 rfl ?_
          refine J_iload dX4_extend_44 rfl ?_
          refine J_iload_n dX4_extend_46 rfl ?_
          refine J_iload_n dX4_extend_47 rfl ?_
          refine J_callS4 moX0_shiftY jw_ml_X4_88 jw_st_X0_shiftY dX4_extend_48 (w_X0_shiftY (d - 1) _ _ _ _ _ (by omega)    ) (by omega) (Nat.zero_le _) (Nat.zero_le _) (Nat.le_of_ble_eq_true rfl) (fun r48 V48 h48 => ?_)
          obtain ⟨⟨y48, rfl, hl48, hh48⟩, hE48⟩ := h48
          have hE48 := hE48.symm
          subst hE48
          refine J_iadd dX4_extend_51 ?_
          refine J_istore dX4_extend_52 rfl (by decide) ?_
          refine J_iload dX4_extend_54 rfl ?_
          refine J_iload dX4_extend_56 rfl ?_
          refine J_iload dX4_extend_58 rfl ?_
          refine J_callS2 moX0_shiftZ jw_ml_X4_92 jw_st_X0_shiftZ dX4_extend_60 (w_X0_shiftZ (d - 1) _ _ _ (by omega)    ) (by omega) (Nat.zero_le _) (Nat.zero_le _) (Nat.le_of_ble_eq_true rfl) (fun r60 V60 h60 => ?_)
          obtain ⟨⟨y60, rfl, hl60, hh60⟩, hE60⟩ := h60
          have hE60 := hE60.symm
          subst hE60
          refine J_iadd dX4_extend_63 ?_
          refine J_istore dX4_extend_64 rfl (by decide) ?_
          refine J_aload_n dX4_extend_66 rfl ?_
          refine J_iload dX4_extend_67 rfl ?_
          refine J_iload dX4_extend_69 rfl ?_
          refine J_iload dX4_extend_71 rfl ?_
          refine Jw_callV3 (q9 := (RX4, TX4, 14)) moX4_cellOf jw_ml_X4_62 jw_im_X4_cellOf jw_se_X4_cellOf ha0 rfl rfl dX4_extend_73 (w_X4_cellOf (d - 1) _ _ _ _ _ (by omega) hW  ha0 ) (by omega) (Nat.zero_le _) (Nat.zero_le _) (Nat.le_of_ble_eq_true rfl) (fun r73 V73 h73 => ?_)
          obtain ⟨⟨y73, rfl, hl73, hh73⟩, hE73⟩ := h73
          have hE73 := hE73.symm
          subst hE73
          refine J_istore dX4_extend_76 rfl (by decide) ?_
          refine J_aload_n dX4_extend_78 rfl ?_
          refine J_iload dX4_extend_79 rfl ?_
          refine Jw_callV1 (q9 := (RX4, TX4, 14)) moX4_isTaken jw_ml_X4_95 jw_im_X4_isTaken jw_se_X4_isTaken ha0 rfl rfl dX4_extend_81 (w_X4_isTaken (d - 1) _ _ _ (by omega) hW  ha0 ) (by omega) (Nat.zero_le _) (Nat.zero_le _) (Nat.le_of_ble_eq_true rfl) (fun r81 V81 h81 => ?_)
          obtain ⟨⟨y81, rfl, hl81, hh81⟩, hE81⟩ := h81
          have hE81 := hE81.symm
          subst hE81
          refine J_if_eq (tgt := 90) dX4_extend_84 (by decide) (fun c84 => ?_) (fun c84 => ?_)
          · refine J_iload dX4_extend_90 rfl ?_
            have K108 : ∀ (V : jH) (i9 : Int32) (i10 : Int32) (i11 : Int32) (i12 : Int32) (t0 : Int32), WT V → jeff [.inr 2, .inl 1, .inl 2, .inl 8, .inl 37, .inl 38] V0 V → jis V (.inr 2) a0 → J tS mX4_extend d 108 [some (.ref a0), some (.int x1), some (.int x2), some (.int x3), some (.int x4), some (.int x5), some (.int i6), some (.int i7), some (.int i8), some (.int i9), some (.int i10), some (.int i11), some (.int i12), none] [.int t0] V 0 0 (jPost [.inr 2, .inl 1, .inl 2, .inl 8, .inl 37, .inl 38] V0 rV) := by
              intro V i9 i10 i11 i12 t0 hW he ha0
              refine J_istore dX4_extend_108 rfl (by decide) ?_
              refine J_iload_n dX4_extend_110 rfl ?_
              refine J_iconst (v := 1) dX4_extend_111 (by decide) ?_
              refine J_iadd dX4_extend_112 ?_
              refine J_aload_n dX4_extend_113 rfl ?_
              obtain ⟨fs114, hO114, hK114⟩ := WT_obj hW id ha0
              obtain ⟨w114, hF114, y114, rfl, hl114, hh114⟩ := hK114.2 10 (.inl (0, 20)) rfl
              dsimp only at hl114 hh114
              refine J_get jf_X4_31 dX4_extend_114 hO114 hF114 ?_
              refine J_icmp_lt (tgt := 135) dX4_extend_117 (by decide) (fun c117 => ?_) (fun c117 => ?_)
              · refine J_aload_n dX4_extend_135 rfl ?_
                refine J_iload dX4_extend_136 rfl ?_
                refine J_iconst (v := 1) dX4_extend_138 (by decide) ?_
                refine Jw_callV2 (q9 := (RX4, TX4, 14)) moX4_setTaken jw_ml_X4_66 jw_im_X4_setTaken jw_se_X4_setTaken ha0 rfl rfl dX4_extend_139 (w_X4_setTaken (d - 1) _ _ _ _ (by omega) hW  ha0 (by first | decide | assumption | omega) (by first | decide | assumption | omega) ) (by omega) (Nat.zero_le _) (Nat.zero_le _) (Nat.le_of_ble_eq_true rfl) (fun r139 V139 h139 => ?_)
                obtain ⟨hW, hx139, hr139⟩ := h139
                have he := he.trans (hx139.sub (jsub_of rfl))
                have ha0 := ha0.mono hx139.1
                have hO114 := hx139.2 _ _ hO114 (jnot_of rfl)
                have hK114 := hK114.mono hx139.1
                cases hr139
                refine J_aload_n dX4_extend_142 rfl ?_
                refine J_iload_n dX4_extend_143 rfl ?_
                refine J_iconst (v := 1) dX4_extend_144 (by decide) ?_
                refine J_iadd dX4_extend_145 ?_
                refine J_iload dX4_extend_146 rfl ?_
                refine J_iload dX4_extend_148 rfl ?_
                refine J_iload dX4_extend_150 rfl ?_
                refine J_iload dX4_extend_152 rfl ?_
                refine J_callS6 moX4_extend jw_ml_X4_70 jw_st_X4_extend dX4_extend_154 (IH (d - 1) _ _ _ _ _ _ _ (by omega) hW ha0 (by have h9 := j_add1 (x := x1) (by omega); omega) (by have h9 := j_add1 (x := x1) (by omega); have h8 := jlt.mp c117; omega) (by have h9 := j_add1 (x := x1) (by omega); have h8 := jlt.mp c117; omega)) (by omega) (Nat.zero_le _) (Nat.zero_le _) (Nat.le_of_ble_eq_true rfl) (fun r154 V154 h154 => ?_)
                obtain ⟨hW, hx154, hr154⟩ := h154
                have he := he.trans (hx154.sub (jsub_of rfl))
                have ha0 := ha0.mono hx154.1
                cases hr154
                refine J_aload_n dX4_extend_157 rfl ?_
                refine J_iload dX4_extend_158 rfl ?_
                refine J_iconst (v := 0) dX4_extend_160 (by decide) ?_
                refine Jw_callV2 (q9 := (RX4, TX4, 14)) moX4_setTaken jw_ml_X4_66 jw_im_X4_setTaken jw_se_X4_setTaken ha0 rfl rfl dX4_extend_161 (w_X4_setTaken (d - 1) _ _ _ _ (by omega) hW  ha0 (by first | decide | assumption | omega) (by first | decide | assumption | omega) ) (by omega) (Nat.zero_le _) (Nat.zero_le _) (Nat.le_of_ble_eq_true rfl) (fun r161 V161 h161 => ?_)
                obtain ⟨hW, hx161, hr161⟩ := h161
                have he := he.trans (hx161.sub (jsub_of rfl))
                have ha0 := ha0.mono hx161.1
                cases hr161
                refine J_iinc dX4_extend_164 rfl j_inc1 rfl (by decide) ?_
                refine J_goto (tgt := 16) dX4_extend_167 (by decide) ?_
                refine J.mask [true, true, true, true, true, true, true, true, true, false, false, false, false, false] ?_
                exact ih16 _ _ _ _ hW he ha0  (jdec_up (Int32.not_le.mp c20) (by assumption))
              · refine J_aload_n dX4_extend_120 rfl ?_
                refine J_iload dX4_extend_121 rfl ?_
                refine J_iload dX4_extend_123 rfl ?_
                refine J_iload dX4_extend_125 rfl ?_
                refine J_iload dX4_extend_127 rfl ?_
                refine Jw_callV4 (q9 := (RX4, TX4, 14)) moX4_score jw_ml_X4_104 jw_im_X4_score jw_se_X4_score ha0 rfl rfl dX4_extend_129 (w_X4_score (d - 1) _ _ _ _ _ _ (by omega) hW  ha0 ) (by omega) (Nat.zero_le _) (Nat.zero_le _) (Nat.le_of_ble_eq_true rfl) (fun r129 V129 h129 => ?_)
                obtain ⟨hW, hx129, hr129⟩ := h129
                have he := he.trans (hx129.sub (jsub_of rfl))
                have ha0 := ha0.mono hx129.1
                cases hr129
                refine J_goto (tgt := 164) dX4_extend_132 (by decide) ?_
                refine J_iinc dX4_extend_164 rfl j_inc1 rfl (by decide) ?_
                refine J_goto (tgt := 16) dX4_extend_167 (by decide) ?_
                refine J.mask [true, true, true, true, true, true, true, true, true, false, false, false, false, false] ?_
                exact ih16 _ _ _ _ hW he ha0  (jdec_up (Int32.not_le.mp c20) (by assumption))
            refine J_if_gt (tgt := 101) dX4_extend_92 (by decide) (fun c92 => ?_) (fun c92 => ?_)
            · refine J_iload dX4_extend_101 rfl ?_
              refine J_iload dX4_extend_103 rfl ?_
              refine J_mmax jw_ml_X4_99 dX4_extend_105 (by omega) (Nat.le_of_ble_eq_true rfl) ?_
              exact K108 _ _ _ _ _ _ hW he ha0
            · refine J_sipush (v := 1000) dX4_extend_95 (by decide) ?_
              refine J_goto (tgt := 108) dX4_extend_98 (by decide) ?_
              exact K108 _ _ _ _ _ _ hW he ha0
          · refine J_goto (tgt := 164) dX4_extend_87 (by decide) ?_
            refine J_iinc dX4_extend_164 rfl j_inc1 rfl (by decide) ?_
            refine J_goto (tgt := 16) dX4_extend_167 (by decide) ?_
            refine J.mask [true, true, true, true, true, true, true, true, true, false, false, false, false, false] ?_
            exact ih16 _ _ _ _ hW he ha0  (jdec_up (Int32.not_le.mp c20) (by assumption))
  refine J.mask [true, true, true, true, true, true, true, true, true, false, false, false, false, false] ?_
  exact L16 _ _ _ _ _ hW he ha0  (Nat.lt_succ_self _)
set_option maxRecDepth 100000 in
set_option maxHeartbeats 4000000 in
theorem w_X4_countLevel {tS : jTS} (d : Nat) (V0 : jH) (a0 : Nat) (x1 : Int32)  (hd : 26 ≤ d) (hW : WT V0) (ha0 : jis V0 (.inr 2) a0) (hl1 : 0 ≤ x1.toInt) (hh1 : x1.toInt ≤ 20)  : jTot tS mX4_countLevel d [.ref a0, .int x1] V0 0 0 (jPost [.inr 2, .inl 1, .inl 2, .inl 8, .inl 37, .inl 38] V0 rV) := by
  refine jTot.of_J [some (.ref a0), some (.int x1), none] moX4_countLevel (Nat.le_of_ble_eq_true rfl) rfl ?_
  have he : jeff [.inr 2, .inl 1, .inl 2, .inl 8, .inl 37, .inl 38] V0 V0 := jeff.refl _ _
  refine J_aload_n dX4_countLevel_0 rfl ?_
  refine J_iload_n dX4_countLevel_1 rfl ?_
  refine Jw_putI hW id ha0 rfl jf_X4_31 jt_X4_10 dX4_countLevel_2 (by first | decide | assumption | omega) (by first | decide | assumption | omega) rfl rfl (fun V2 hW hx2 => ?_)
  have he := he.trans (hx2.sub (jsub_of rfl))
  have ha0 := ha0.mono hx2.1
  refine J_aload_n dX4_countLevel_5 rfl ?_
  refine J_iconst (v := 0) dX4_countLevel_6 (by decide) ?_
  refine J_iconst (v := 0) dX4_countLevel_7 (by decide) ?_
  refine J_iconst (v := 0) dX4_countLevel_8 (by decide) ?_
  refine Jw_callV3 (q9 := (RX4, TX4, 14)) moX4_cellOf jw_ml_X4_62 jw_im_X4_cellOf jw_se_X4_cellOf ha0 rfl rfl dX4_countLevel_9 (w_X4_cellOf (d - 1) _ _ _ _ _ (by omega) hW  ha0 ) (by omega) (Nat.zero_le _) (Nat.zero_le _) (Nat.le_of_ble_eq_true rfl) (fun r9 V9 h9 => ?_)
  obtain ⟨⟨y9, rfl, hl9, hh9⟩, hE9⟩ := h9
  have hE9 := hE9.symm
  subst hE9
  refine J_istore_n dX4_countLevel_12 rfl (by decide) ?_
  refine J_aload_n dX4_countLevel_13 rfl ?_
  refine J_iload_n dX4_countLevel_14 rfl ?_
  refine J_iconst (v := 1) dX4_countLevel_15 (by decide) ?_
  refine Jw_callV2 (q9 := (RX4, TX4, 14)) moX4_setTaken jw_ml_X4_66 jw_im_X4_setTaken jw_se_X4_setTaken ha0 rfl rfl dX4_countLevel_16 (w_X4_setTaken (d - 1) _ _ _ _ (by omega) hW  ha0 (by first | decide | assumption | omega) (by first | decide | assumption | omega) ) (by omega) (Nat.zero_le _) (Nat.zero_le _) (Nat.le_of_ble_eq_true rfl) (fun r16 V16 h16 => ?_)
  obtain ⟨hW, hx16, hr16⟩ := h16
  have he := he.trans (hx16.sub (jsub_of rfl))
  have ha0 := ha0.mono hx16.1
  cases hr16
  refine J_aload_n dX4_countLevel_19 rfl ?_
  refine J_iconst (v := 0) dX4_countLevel_20 (by decide) ?_
  refine J_iconst (v := 0) dX4_countLevel_21 (by decide) ?_
  refine J_iconst (v := 0) dX4_countLevel_22 (by decide) ?_
  refine J_iconst (v := 0) dX4_countLevel_23 (by decide) ?_
  refine J_iconst (v := 0) dX4_countLevel_24 (by decide) ?_
  refine J_callS6 moX4_extend jw_ml_X4_70 jw_st_X4_extend dX4_countLevel_25 (w_X4_extend 22 (d - 1) _ _ _ _ _ _ _ (by omega) hW ha0 (by first | decide | assumption | omega) (by first | decide | assumption | omega) (by decide)) (by omega) (Nat.zero_le _) (Nat.zero_le _) (Nat.le_of_ble_eq_true rfl) (fun r25 V25 h25 => ?_)
  obtain ⟨hW, hx25, hr25⟩ := h25
  have he := he.trans (hx25.sub (jsub_of rfl))
  have ha0 := ha0.mono hx25.1
  cases hr25
  refine J_aload_n dX4_countLevel_28 rfl ?_
  refine J_iload_n dX4_countLevel_29 rfl ?_
  refine J_iconst (v := 0) dX4_countLevel_30 (by decide) ?_
  refine Jw_callV2 (q9 := (RX4, TX4, 14)) moX4_setTaken jw_ml_X4_66 jw_im_X4_setTaken jw_se_X4_setTaken ha0 rfl rfl dX4_countLevel_31 (w_X4_setTaken (d - 1) _ _ _ _ (by omega) hW  ha0 (by first | decide | assumption | omega) (by first | decide | assumption | omega) ) (by omega) (Nat.zero_le _) (Nat.zero_le _) (Nat.le_of_ble_eq_true rfl) (fun r31 V31 h31 => ?_)
  obtain ⟨hW, hx31, hr31⟩ := h31
  have he := he.trans (hx31.sub (jsub_of rfl))
  have ha0 := ha0.mono hx31.1
  cases hr31
  refine J_aload_n dX4_countLevel_34 rfl ?_
  obtain ⟨fs35, hO35, hK35⟩ := WT_obj hW id ha0
  obtain ⟨w35, hF35, y35, rfl, hl35, hh35⟩ := hK35.2 13 (.inl (0, 1)) rfl
  dsimp only at hl35 hh35
  refine J_get jf_X4_41 dX4_countLevel_35 hO35 hF35 ?_
  refine J_if_ne (tgt := 63) dX4_countLevel_38 (by decide) (fun c38 => ?_) (fun c38 => ?_)
  · exact J_ret (r := none) dX4_countLevel_63 ⟨rfl, rfl⟩ (⟨hW, he, rfl⟩)
  · refine J_aload_n dX4_countLevel_41 rfl ?_
    refine J_iload_n dX4_countLevel_42 rfl ?_
    refine Jw_putI hW id ha0 rfl jf_X4_35 jt_X4_11 dX4_countLevel_43 (by first | decide | assumption | omega) (by first | decide | assumption | omega) rfl rfl (fun V43 hW hx43 => ?_)
    have he := he.trans (hx43.sub (jsub_of rfl))
    have ha0 := ha0.mono hx43.1
    refine J_aload_n dX4_countLevel_46 rfl ?_
    refine J_dup dX4_countLevel_47 rfl ?_
    obtain ⟨fs48, hO48, hK48⟩ := WT_obj hW id ha0
    obtain ⟨w48, hF48, y48, rfl, hl48, hh48⟩ := hK48.2 12 (.inl ((-2147483648), 2147483647)) rfl
    dsimp only at hl48 hh48
    refine J_get jf_X4_38 dX4_countLevel_48 hO48 hF48 ?_
    refine J_aload_n dX4_countLevel_51 rfl ?_
    obtain ⟨w52, hF52, b52, rfl, hb52⟩ := hK48.2 4 (.inr (some (.inl 8))) rfl
    refine J_get jf_X4_9 dX4_countLevel_52 hO48 hF52 ?_
    refine J_iload_n dX4_countLevel_55 rfl ?_
    refine J_callSN2 moX6_cell (host := "WalkGrounds") (List.mem_of_getElem? (i := 4) rfl) jw_st_X6_cell dX4_countLevel_56 (w_X6_cell (d - 1) _ _ _ hW hb52 rfl rfl) (by omega) (Nat.zero_le _) (Nat.zero_le _) (Nat.le_of_ble_eq_true rfl) (fun r56 V56 h56 => ?_)
    obtain ⟨⟨y56, rfl, hl56, hh56⟩, hE56⟩ := h56
    have hE56 := hE56.symm
    subst hE56
    refine J_iadd dX4_countLevel_59 ?_
    refine Jw_putI hW id ha0 rfl jf_X4_38 jt_X4_12 dX4_countLevel_60 (j_rng _).1 (j_rng _).2 rfl rfl (fun V60 hW hx60 => ?_)
    have he := he.trans (hx60.sub (jsub_of rfl))
    have ha0 := ha0.mono hx60.1
    exact J_ret (r := none) dX4_countLevel_63 ⟨rfl, rfl⟩ (⟨hW, he, rfl⟩)
set_option maxRecDepth 100000 in
set_option maxHeartbeats 4000000 in
theorem w_X4_holds {tS : jTS} (d : Nat) (V0 : jH) (a0 : Nat) (x1 : Int32)  (hd : 27 ≤ d) (hW : WT V0) (ha0 : jis V0 (.inr 2) a0)  : jTot tS mX4_holds d [.ref a0, .int x1] V0 0 0 (jPost [.inr 2, .inl 1, .inl 2, .inl 8, .inl 37, .inl 38] V0 (rI 0 1)) := by
  refine jTot.of_J [some (.ref a0), some (.int x1), none] moX4_holds (Nat.le_of_ble_eq_true rfl) rfl ?_
  have he : jeff [.inr 2, .inl 1, .inl 2, .inl 8, .inl 37, .inl 38] V0 V0 := jeff.refl _ _
  refine J_aload_n dX4_holds_0 rfl ?_
  obtain ⟨fs1, hO1, hK1⟩ := WT_obj hW id ha0
  obtain ⟨w1, hF1, y1, rfl, hl1, hh1⟩ := hK1.2 11 (.inl (0, 20)) rfl
  dsimp only at hl1 hh1
  refine J_get jf_X4_35 dX4_holds_1 hO1 hF1 ?_
  refine J_iconst (v := 1) dX4_holds_4 (by decide) ?_
  refine J_iadd dX4_holds_5 ?_
  refine J_istore_n dX4_holds_6 rfl (by decide) ?_
  have L7 : ∀ (N : Nat) (V : jH) (i2 : Int32), WT V → jeff [.inr 2, .inl 1, .inl 2, .inl 8, .inl 37, .inl 38] V0 V → jis V (.inr 2) a0 → (0 ≤ i2.toInt) → (2147483648 - i2.toInt).toNat < N → J tS mX4_holds d 7 [some (.ref a0), some (.int x1), some (.int i2)] [] V 0 0 (jPost [.inr 2, .inl 1, .inl 2, .inl 8, .inl 37, .inl 38] V0 (rI 0 1)) := by
    intro N
    induction N with
    | zero => intro V i2 hW he ha0 hi2 hm; exact absurd hm (Nat.not_lt_zero _)
    | succ N ih =>
      intro V i2 hW he ha0 hi2 hm
      have ih7 := ih
      refine J_iload_n dX4_holds_7 rfl ?_
      refine J_iload_n dX4_holds_8 rfl ?_
      refine J_icmp_gt (tgt := 38) dX4_holds_9 (by decide) (fun c9 => ?_) (fun c9 => ?_)
      · refine J_iload_n dX4_holds_38 rfl ?_
        refine J_aload_n dX4_holds_39 rfl ?_
        obtain ⟨fs40, hO40, hK40⟩ := WT_obj hW id ha0
        obtain ⟨w40, hF40, y40, rfl, hl40, hh40⟩ := hK40.2 11 (.inl (0, 20)) rfl
        dsimp only at hl40 hh40
        refine J_get jf_X4_35 dX4_holds_40 hO40 hF40 ?_
        refine J_icmp_gt (tgt := 50) dX4_holds_43 (by decide) (fun c43 => ?_) (fun c43 => ?_)
        · refine J_iconst (v := 0) dX4_holds_50 (by decide) ?_
          exact J_ret (r := some (.int _)) dX4_holds_51 ⟨rfl, _, rfl, (by first | rfl | exact nar_b (by assumption) (by assumption))⟩ (⟨hW, he, _, rfl, by first | decide | assumption | omega, by first | decide | assumption | omega⟩)
        · refine J_iconst (v := 1) dX4_holds_46 (by decide) ?_
          refine J_goto (tgt := 51) dX4_holds_47 (by decide) ?_
          exact J_ret (r := some (.int _)) dX4_holds_51 ⟨rfl, _, rfl, (by first | rfl | exact nar_b (by assumption) (by assumption))⟩ (⟨hW, he, _, rfl, by first | decide | assumption | omega, by first | decide | assumption | omega⟩)
      · refine J_iload_n dX4_holds_12 rfl ?_
        refine J_aload_n dX4_holds_13 rfl ?_
        obtain ⟨fs14, hO14, hK14⟩ := WT_obj hW id ha0
        obtain ⟨w14, hF14, y14, rfl, hl14, hh14⟩ := hK14.2 1 (.inl (0, 20)) rfl
        dsimp only at hl14 hh14
        refine J_get jf_X4_48 dX4_holds_14 hO14 hF14 ?_
        refine J_icmp_gt (tgt := 38) dX4_holds_17 (by decide) (fun c17 => ?_) (fun c17 => ?_)
        · refine J_iload_n dX4_holds_38 rfl ?_
          refine J_aload_n dX4_holds_39 rfl ?_
          obtain ⟨w40, hF40, y40, rfl, hl40, hh40⟩ := hK14.2 11 (.inl (0, 20)) rfl
          dsimp only at hl40 hh40
          refine J_get jf_X4_35 dX4_holds_40 hO14 hF40 ?_
          refine J_icmp_gt (tgt := 50) dX4_holds_43 (by decide) (fun c43 => ?_) (fun c43 => ?_)
          · refine J_iconst (v := 0) dX4_holds_50 (by decide) ?_
            exact J_ret (r := some (.int _)) dX4_holds_51 ⟨rfl, _, rfl, (by first | rfl | exact nar_b (by assumption) (by assumption))⟩ (⟨hW, he, _, rfl, by first | decide | assumption | omega, by first | decide | assumption | omega⟩)
          · refine J_iconst (v := 1) dX4_holds_46 (by decide) ?_
            refine J_goto (tgt := 51) dX4_holds_47 (by decide) ?_
            exact J_ret (r := some (.int _)) dX4_holds_51 ⟨rfl, _, rfl, (by first | rfl | exact nar_b (by assumption) (by assumption))⟩ (⟨hW, he, _, rfl, by first | decide | assumption | omega, by first | decide | assumption | omega⟩)
        · refine J_aload_n dX4_holds_20 rfl ?_
          obtain ⟨w21, hF21, y21, rfl, hl21, hh21⟩ := hK14.2 13 (.inl (0, 1)) rfl
          dsimp only at hl21 hh21
          refine J_get jf_X4_41 dX4_holds_21 hO14 hF21 ?_
          refine J_if_ne (tgt := 38) dX4_holds_24 (by decide) (fun c24 => ?_) (fun c24 => ?_)
          · refine J_iload_n dX4_holds_38 rfl ?_
            refine J_aload_n dX4_holds_39 rfl ?_
            obtain ⟨w40, hF40, y40, rfl, hl40, hh40⟩ := hK14.2 11 (.inl (0, 20)) rfl
            dsimp only at hl40 hh40
            refine J_get jf_X4_35 dX4_holds_40 hO14 hF40 ?_
            refine J_icmp_gt (tgt := 50) dX4_holds_43 (by decide) (fun c43 => ?_) (fun c43 => ?_)
            · refine J_iconst (v := 0) dX4_holds_50 (by decide) ?_
              exact J_ret (r := some (.int _)) dX4_holds_51 ⟨rfl, _, rfl, (by first | rfl | exact nar_b (by assumption) (by assumption))⟩ (⟨hW, he, _, rfl, by first | decide | assumption | omega, by first | decide | assumption | omega⟩)
            · refine J_iconst (v := 1) dX4_holds_46 (by decide) ?_
              refine J_goto (tgt := 51) dX4_holds_47 (by decide) ?_
              exact J_ret (r := some (.int _)) dX4_holds_51 ⟨rfl, _, rfl, (by first | rfl | exact nar_b (by assumption) (by assumption))⟩ (⟨hW, he, _, rfl, by first | decide | assumption | omega, by first | decide | assumption | omega⟩)
          · refine J_aload_n dX4_holds_27 rfl ?_
            refine J_iload_n dX4_holds_28 rfl ?_
            refine Jw_callV1 (q9 := (RX4, TX4, 14)) moX4_countLevel jw_ml_X4_58 jw_im_X4_countLevel jw_se_X4_countLevel ha0 rfl rfl dX4_holds_29 (w_X4_countLevel (d - 1) _ _ _ (by omega) hW  ha0 hi2 (by have h9 := jle.mp (Int32.not_lt.mp c17); omega) ) (by omega) (Nat.zero_le _) (Nat.zero_le _) (Nat.le_of_ble_eq_true rfl) (fun r29 V29 h29 => ?_)
            obtain ⟨hW, hx29, hr29⟩ := h29
            have he := he.trans (hx29.sub (jsub_of rfl))
            have ha0 := ha0.mono hx29.1
            cases hr29
            refine J_iinc dX4_holds_32 rfl j_inc1 rfl (by decide) ?_
            refine J_goto (tgt := 7) dX4_holds_35 (by decide) ?_
            refine J.mask [true, true, true] ?_
            exact ih7 _ _ hW he ha0 (by have h9 := jm_le c17 (by omega); omega) (by have h8 := j_rng i2; have h9 := jm_le c17 (by omega); omega)
  refine J.mask [true, true, true] ?_
  exact L7 _ _ _ hW he ha0 (by have h9 := j_add1 (x := y1) (by omega); omega) (Nat.lt_succ_self _)
set_option maxRecDepth 100000 in
set_option maxHeartbeats 4000000 in
theorem w_X4_init {tS : jTS} (d : Nat) (V0 : jH) (q : Nat) (x1 : Int32)  (hd : 1 ≤ d) (hW : WTx (fun a => False ∨ a = q) V0) (hq : V0 q = some (.inr (2, [.int 0, .int 0, .int 0, .null, .null, .null, .null, .null, .null, .null, .int 0, .int 0, .int 0, .int 0])))   : jTot tS mX4_init d [.ref q, .int x1] V0 7 15724 (fun r V => r = none ∧ WTx (fun _ => False) V ∧ jeff [.inr 2] V0 V ∧ jis V (.inr 2) q) := by
  refine jTot.of_J [some (.ref q), some (.int x1), none] moX4_init (Nat.le_of_ble_eq_true rfl) rfl ?_
  have he : jeff [.inr 2] V0 V0 := jeff.refl _ _
  refine J_aload_n dX4_init_0 rfl ?_
  refine J_objInit jw_ml_X4_3 jw_oi2 jw_oi3 dX4_init_1 (by omega) (Nat.le_of_ble_eq_true rfl) ?_
  refine J_aload_n dX4_init_4 rfl ?_
  refine J_bipush (v := 21) dX4_init_5 (by decide) ?_
  refine Jc_newa (atype := .int) (t := 8) (B := 21) (x := .inl (fun _ => 0)) jw_ac_int rfl (fun _ h => by cases h) (by decide) dX4_init_7 (by decide) (by decide) (by decide) (fun _ _ => rfl) (fun hN => jok_zI rfl (by decide) (by decide) (fun m h => by cases h <;> rfl) hN) (by decide) (by decide) hW (fun b7 V7 hn7 hb7 hk7 hW hx7 => ?_)
  have hz7 := he.1.none hn7
  have he := he.trans (hx7.sub (jsub_of rfl))
  have hq := hk7 _ _ hq
  refine Jc_putF jf_X4_9 jt_X4_4 rfl (fun _ h => by cases h; rfl) dX4_init_9 hq rfl rfl (Nat.le_of_ble_eq_true rfl) (fun _ h => by cases h) hW (fun V9 hq hW hx9 hB9 => ?_)
  have he := he.trans (hx9.sub (jsub_of rfl))
  have hb7 := hb7.mono hx9.1
  refine J_aload_n dX4_init_12 rfl ?_
  refine J_bipush (v := 21) dX4_init_13 (by decide) ?_
  refine Jc_newa (atype := .long) (t := 1) (B := 21) (x := .inr (.inl (fun _ => 0))) jw_ac_long rfl (fun _ h => by cases h) (by decide) dX4_init_15 (by decide) (by decide) (by decide) (fun _ _ => rfl) (fun hN => jok_zL rfl (fun m h => by cases h <;> rfl) hN) (by decide) (by decide) hW (fun b15 V15 hn15 hb15 hk15 hW hx15 => ?_)
  have hz15 := he.1.none hn15
  have he := he.trans (hx15.sub (jsub_of rfl))
  have hb7 := hb7.mono hx15.1
  have hq := hk15 _ _ hq
  refine Jc_putF jf_X4_15 jt_X4_5 rfl (fun _ h => by cases h; rfl) dX4_init_17 hq rfl rfl (Nat.le_of_ble_eq_true rfl) (fun _ h => by cases h) hW (fun V17 hq hW hx17 hB17 => ?_)
  have he := he.trans (hx17.sub (jsub_of rfl))
  have hb7 := hb7.mono hx17.1
  have hb15 := hb15.mono hx17.1
  refine J_aload_n dX4_init_20 rfl ?_
  refine J_bipush (v := 21) dX4_init_21 (by decide) ?_
  refine Jc_newa (atype := .int) (t := 37) (B := 21) (x := .inl (fun _ => 0)) jw_ac_int rfl (fun _ h => by cases h) (by decide) dX4_init_23 (by decide) (by decide) (by decide) (fun _ _ => rfl) (fun hN => jok_zI rfl (by decide) (by decide) (fun m h => by cases h <;> rfl) hN) (by decide) (by decide) hW (fun b23 V23 hn23 hb23 hk23 hW hx23 => ?_)
  have hz23 := he.1.none hn23
  have he := he.trans (hx23.sub (jsub_of rfl))
  have hb7 := hb7.mono hx23.1
  have hb15 := hb15.mono hx23.1
  have hq := hk23 _ _ hq
  refine Jc_putF jf_X4_19 jt_X4_6 rfl (fun _ h => by cases h; rfl) dX4_init_25 hq rfl rfl (Nat.le_of_ble_eq_true rfl) (fun _ h => by cases h) hW (fun V25 hq hW hx25 hB25 => ?_)
  have he := he.trans (hx25.sub (jsub_of rfl))
  have hb7 := hb7.mono hx25.1
  have hb15 := hb15.mono hx25.1
  have hb23 := hb23.mono hx25.1
  refine J_aload_n dX4_init_28 rfl ?_
  refine J_bipush (v := 21) dX4_init_29 (by decide) ?_
  refine Jc_newa (atype := .int) (t := 38) (B := 21) (x := .inl (fun _ => 0)) jw_ac_int rfl (fun _ h => by cases h) (by decide) dX4_init_31 (by decide) (by decide) (by decide) (fun _ _ => rfl) (fun hN => jok_zI rfl (by decide) (by decide) (fun m h => by cases h <;> rfl) hN) (by decide) (by decide) hW (fun b31 V31 hn31 hb31 hk31 hW hx31 => ?_)
  have hz31 := he.1.none hn31
  have he := he.trans (hx31.sub (jsub_of rfl))
  have hb7 := hb7.mono hx31.1
  have hb15 := hb15.mono hx31.1
  have hb23 := hb23.mono hx31.1
  have hq := hk31 _ _ hq
  refine Jc_putF jf_X4_22 jt_X4_7 rfl (fun _ h => by cases h; rfl) dX4_init_33 hq rfl rfl (Nat.le_of_ble_eq_true rfl) (fun _ h => by cases h) hW (fun V33 hq hW hx33 hB33 => ?_)
  have he := he.trans (hx33.sub (jsub_of rfl))
  have hb7 := hb7.mono hx33.1
  have hb15 := hb15.mono hx33.1
  have hb23 := hb23.mono hx33.1
  have hb31 := hb31.mono hx33.1
  refine J_aload_n dX4_init_36 rfl ?_
  refine J_bipush (v := 8) dX4_init_37 (by decide) ?_
  refine Jc_newa (atype := .int) (t := 13) (B := 8) (x := .inl (fun _ => 0)) jw_ac_int rfl (fun _ h => by cases h) (by decide) dX4_init_39 (by decide) (by decide) (by decide) (fun _ _ => rfl) (fun hN => jok_zI rfl (by decide) (by decide) (fun m h => by cases h <;> rfl) hN) (by decide) (by decide) hW (fun b39 V39 hn39 hb39 hk39 hW hx39 => ?_)
  have hz39 := he.1.none hn39
  have he := he.trans (hx39.sub (jsub_of rfl))
  have hb7 := hb7.mono hx39.1
  have hb15 := hb15.mono hx39.1
  have hb23 := hb23.mono hx39.1
  have hb31 := hb31.mono hx39.1
  have hq := hk39 _ _ hq
  refine Jc_putF jf_X4_25 jt_X4_8 rfl (fun _ h => by cases h; rfl) dX4_init_41 hq rfl rfl (Nat.le_of_ble_eq_true rfl) (fun _ h => by cases h) hW (fun V41 hq hW hx41 hB41 => ?_)
  have he := he.trans (hx41.sub (jsub_of rfl))
  have hb7 := hb7.mono hx41.1
  have hb15 := hb15.mono hx41.1
  have hb23 := hb23.mono hx41.1
  have hb31 := hb31.mono hx41.1
  have hb39 := hb39.mono hx41.1
  refine J_aload_n dX4_init_44 rfl ?_
  refine J_bipush (v := 7) dX4_init_45 (by decide) ?_
  refine Jc_newa (atype := .int) (t := 9) (B := 7) (x := .inl (fun _ => 0)) jw_ac_int rfl (fun _ h => by cases h) (by decide) dX4_init_47 (by decide) (by decide) (by decide) (fun _ _ => rfl) (fun hN => jok_zI rfl (by decide) (by decide) (fun m h => by cases h <;> rfl) hN) (by decide) (by decide) hW (fun b47 V47 hn47 hb47 hk47 hW hx47 => ?_)
  have hz47 := he.1.none hn47
  have he := he.trans (hx47.sub (jsub_of rfl))
  have hb7 := hb7.mono hx47.1
  have hb15 := hb15.mono hx47.1
  have hb23 := hb23.mono hx47.1
  have hb31 := hb31.mono hx47.1
  have hb39 := hb39.mono hx47.1
  have hq := hk47 _ _ hq
  refine Jc_putF jf_X4_28 jt_X4_9 rfl (fun _ h => by cases h; rfl) dX4_init_49 hq rfl rfl (Nat.le_of_ble_eq_true rfl) (fun _ h => by cases h) hW (fun V49 hq hW hx49 hB49 => ?_)
  have he := he.trans (hx49.sub (jsub_of rfl))
  have hb7 := hb7.mono hx49.1
  have hb15 := hb15.mono hx49.1
  have hb23 := hb23.mono hx49.1
  have hb31 := hb31.mono hx49.1
  have hb39 := hb39.mono hx49.1
  have hb47 := hb47.mono hx49.1
  refine J_aload_n dX4_init_52 rfl ?_
  refine J_iconst (v := 0) dX4_init_53 (by decide) ?_
  refine Jc_put jf_X4_31 jt_X4_10 dX4_init_54 hq rfl rfl (Nat.le_of_ble_eq_true rfl) (fun _ h => by cases h) hW (fun V54 hq hW hx54 hB54 => ?_)
  have he := he.trans (hx54.sub (jsub_of rfl))
  have hb7 := hb7.mono hx54.1
  have hb15 := hb15.mono hx54.1
  have hb23 := hb23.mono hx54.1
  have hb31 := hb31.mono hx54.1
  have hb39 := hb39.mono hx54.1
  have hb47 := hb47.mono hx54.1
  refine J_aload_n dX4_init_57 rfl ?_
  refine J_iconst (v := 0) dX4_init_58 (by decide) ?_
  refine Jc_put jf_X4_35 jt_X4_11 dX4_init_59 hq rfl rfl (Nat.le_of_ble_eq_true rfl) (fun _ h => by cases h) hW (fun V59 hq hW hx59 hB59 => ?_)
  have he := he.trans (hx59.sub (jsub_of rfl))
  have hb7 := hb7.mono hx59.1
  have hb15 := hb15.mono hx59.1
  have hb23 := hb23.mono hx59.1
  have hb31 := hb31.mono hx59.1
  have hb39 := hb39.mono hx59.1
  have hb47 := hb47.mono hx59.1
  refine J_aload_n dX4_init_62 rfl ?_
  refine J_iconst (v := 0) dX4_init_63 (by decide) ?_
  refine Jc_put jf_X4_38 jt_X4_12 dX4_init_64 hq rfl rfl (Nat.le_of_ble_eq_true rfl) (fun _ h => by cases h) hW (fun V64 hq hW hx64 hB64 => ?_)
  have he := he.trans (hx64.sub (jsub_of rfl))
  have hb7 := hb7.mono hx64.1
  have hb15 := hb15.mono hx64.1
  have hb23 := hb23.mono hx64.1
  have hb31 := hb31.mono hx64.1
  have hb39 := hb39.mono hx64.1
  have hb47 := hb47.mono hx64.1
  refine J_aload_n dX4_init_67 rfl ?_
  refine J_iconst (v := 0) dX4_init_68 (by decide) ?_
  refine Jc_put jf_X4_41 jt_X4_13 dX4_init_69 hq rfl rfl (Nat.le_of_ble_eq_true rfl) (fun _ h => by cases h) hW (fun V69 hq hW hx69 hB69 => ?_)
  have he := he.trans (hx69.sub (jsub_of rfl))
  have hb7 := hb7.mono hx69.1
  have hb15 := hb15.mono hx69.1
  have hb23 := hb23.mono hx69.1
  have hb31 := hb31.mono hx69.1
  have hb39 := hb39.mono hx69.1
  have hb47 := hb47.mono hx69.1
  refine J_aload_n dX4_init_72 rfl ?_
  refine J_iload_n dX4_init_73 rfl ?_
  refine Jc_putF jf_X4_45 jt_X4_0 rfl (fun _ h => by cases h; rfl) dX4_init_74 hq rfl rfl (Nat.le_of_ble_eq_true rfl) (fun _ h => by cases h) hW (fun V74 hq hW hx74 hB74 => ?_)
  have he := he.trans (hx74.sub (jsub_of rfl))
  have hb7 := hb7.mono hx74.1
  have hb15 := hb15.mono hx74.1
  have hb23 := hb23.mono hx74.1
  have hb31 := hb31.mono hx74.1
  have hb39 := hb39.mono hx74.1
  have hb47 := hb47.mono hx74.1
  refine J_aload_n dX4_init_77 rfl ?_
  refine J_iload_n dX4_init_78 rfl ?_
  refine J_iconst (v := 3) dX4_init_79 (by decide) ?_
  refine J_icmp_ne (tgt := 88) dX4_init_80 (by decide) (fun c80 => ?_) (fun c80 => ?_)
  · refine J_bipush (v := 20) dX4_init_88 (by decide) ?_
    refine Jc_putF jf_X4_48 jt_X4_1 rfl (fun _ h => by cases h; rfl) dX4_init_90 hq rfl rfl (Nat.le_of_ble_eq_true rfl) (fun _ h => by cases h) hW (fun V90 hq hW hx90 hB90 => ?_)
    have he := he.trans (hx90.sub (jsub_of rfl))
    have hb7 := hb7.mono hx90.1
    have hb15 := hb15.mono hx90.1
    have hb23 := hb23.mono hx90.1
    have hb31 := hb31.mono hx90.1
    have hb39 := hb39.mono hx90.1
    have hb47 := hb47.mono hx90.1
    refine J_aload_n dX4_init_93 rfl ?_
    refine J_iconst (v := 2) dX4_init_94 (by decide) ?_
    refine J_aload_n dX4_init_95 rfl ?_
    refine J_get jf_X4_48 dX4_init_96 hq rfl ?_
    refine J_imul dX4_init_99 ?_
    refine J_iconst (v := 1) dX4_init_100 (by decide) ?_
    refine J_iadd dX4_init_101 ?_
    refine Jc_putF jf_X4_51 jt_X4_2 rfl (fun _ h => by cases h; rfl) dX4_init_102 hq rfl rfl (Nat.le_of_ble_eq_true rfl) (fun _ h => by cases h) hW (fun V102 hq hW hx102 hB102 => ?_)
    have he := he.trans (hx102.sub (jsub_of rfl))
    have hb7 := hb7.mono hx102.1
    have hb15 := hb15.mono hx102.1
    have hb23 := hb23.mono hx102.1
    have hb31 := hb31.mono hx102.1
    have hb39 := hb39.mono hx102.1
    have hb47 := hb47.mono hx102.1
    refine J_aload_n dX4_init_105 rfl ?_
    refine J_iload_n dX4_init_106 rfl ?_
    refine J_iconst (v := 3) dX4_init_107 (by decide) ?_
    refine J_icmp_ne (tgt := 128) dX4_init_108 (by decide) (fun c108 => ?_) (fun c108 => absurd c108 c80)
    refine J_aload_n dX4_init_128 rfl ?_
    refine J_get jf_X4_51 dX4_init_129 hq rfl ?_
    refine J_aload_n dX4_init_132 rfl ?_
    refine J_get jf_X4_51 dX4_init_133 hq rfl ?_
    refine J_imul dX4_init_136 ?_
    refine Jc_newa (atype := .boolean) (t := 2) (B := 15625) (x := .inl (fun _ => 0)) jw_ac_boolean rfl (fun _ h => by cases h) (by decide) dX4_init_137 (by decide) (by decide) (by decide) (fun _ _ => rfl) (fun hN => jok_zI rfl (by decide) (by decide) (fun m h => by cases h <;> rfl) hN) (by decide) (by decide) hW (fun b137 V137 hn137 hb137 hk137 hW hx137 => ?_)
    have hz137 := he.1.none hn137
    have he := he.trans (hx137.sub (jsub_of rfl))
    have hb7 := hb7.mono hx137.1
    have hb15 := hb15.mono hx137.1
    have hb23 := hb23.mono hx137.1
    have hb31 := hb31.mono hx137.1
    have hb39 := hb39.mono hx137.1
    have hb47 := hb47.mono hx137.1
    have hq := hk137 _ _ hq
    refine Jc_putF jf_X4_54 jt_X4_3 rfl (fun _ h => by cases h; rfl) dX4_init_139 hq rfl rfl (Nat.le_of_ble_eq_true rfl) (fun _ h => by cases h) hW (fun V139 hq hW hx139 hB139 => ?_)
    have he := he.trans (hx139.sub (jsub_of rfl))
    have hb7 := hb7.mono hx139.1
    have hb15 := hb15.mono hx139.1
    have hb23 := hb23.mono hx139.1
    have hb31 := hb31.mono hx139.1
    have hb39 := hb39.mono hx139.1
    have hb47 := hb47.mono hx139.1
    have hb137 := hb137.mono hx139.1
    have hW := hW.fin hq (jokO_cons ⟨_, rfl, (j_rng _).1, (j_rng _).2⟩ (jokO_cons ⟨_, rfl, by first | decide | assumption | omega, by first | decide | assumption | omega⟩ (jokO_cons ⟨_, rfl, (j_rng _).1, (j_rng _).2⟩ (jokO_cons ⟨_, rfl, hb137⟩ (jokO_cons ⟨_, rfl, hb7⟩ (jokO_cons ⟨_, rfl, hb15⟩ (jokO_cons ⟨_, rfl, hb23⟩ (jokO_cons ⟨_, rfl, hb31⟩ (jokO_cons ⟨_, rfl, hb39⟩ (jokO_cons ⟨_, rfl, hb47⟩ (jokO_cons ⟨_, rfl, by first | decide | assumption | omega, by first | decide | assumption | omega⟩ (jokO_cons ⟨_, rfl, by first | decide | assumption | omega, by first | decide | assumption | omega⟩ (jokO_cons ⟨_, rfl, (j_rng _).1, (j_rng _).2⟩ (jokO_cons ⟨_, rfl, by first | decide | assumption | omega, by first | decide | assumption | omega⟩ (jokO_nil)))))))))))))))
    have hq0 : jis _ (.inr 2) q := ⟨_, hq, rfl⟩
    obtain ⟨fsq, hOq, hFq3, hFq4, hFq5, hFq6, hFq7, hFq8, hFq9⟩ : ∃ fs : List Value, V139 q = some (.inr (2, fs)) ∧ fs[3]? = some (.ref b137) ∧ fs[4]? = some (.ref b7) ∧ fs[5]? = some (.ref b15) ∧ fs[6]? = some (.ref b23) ∧ fs[7]? = some (.ref b31) ∧ fs[8]? = some (.ref b39) ∧ fs[9]? = some (.ref b47) := ⟨_, hq, rfl, rfl, rfl, rfl, rfl, rfl, rfl⟩
    have hKq : jokO V139 (jFs 2) fsq := hW _ _ (fun h => h) hOq
    refine J_iconst (v := 0) dX4_init_142 (by decide) ?_
    refine J_istore_n dX4_init_143 rfl (by decide) ?_
    have L144 : ∀ (N : Nat) (V : jH) (i2 : Int32), WTx (fun _ => False) V → jeff [.inr 2] V0 V → jis V (.inl 8) b7 → jis V (.inl 1) b15 → jis V (.inl 37) b23 → jis V (.inl 38) b31 → jis V (.inl 13) b39 → jis V (.inl 9) b47 → jis V (.inl 2) b137 → jis V (.inr 2) q → (V q = some (.inr (2, fsq))) → (jokO V (jFs 2) fsq) → (0 ≤ i2.toInt) → (2147483648 - i2.toInt).toNat < N → J tS mX4_init d 144 [some (.ref q), none, some (.int i2)] [] V 0 0 (fun r V => r = none ∧ WTx (fun _ => False) V ∧ jeff [.inr 2] V0 V ∧ jis V (.inr 2) q) := by
      intro N
      induction N with
      | zero => intro V i2 hW he hb7 hb15 hb23 hb31 hb39 hb47 hb137 hq0 hOq hKq hi2 hm; exact absurd hm (Nat.not_lt_zero _)
      | succ N ih =>
        intro V i2 hW he hb7 hb15 hb23 hb31 hb39 hb47 hb137 hq0 hOq hKq hi2 hm
        have ih144 := ih
        refine J_iload_n dX4_init_144 rfl ?_
        refine J_aload_n dX4_init_145 rfl ?_
        refine J_get jf_X4_9 dX4_init_146 hOq hFq4 ?_
        obtain ⟨n149, f149, hA149, hN149, hM149, hv149⟩ := WT_arrI (r := (-2147483648, 2147483647)) hW (fun h => h) rfl hb7
        obtain rfl := hM149 21 rfl
        refine J_alen (v := Int32.ofNat 21) dX4_init_149 hA149 rfl rfl ?_
        refine J_icmp_ge (tgt := 174) dX4_init_150 (by decide) (fun c150 => ?_) (fun c150 => ?_)
        · refine J_iconst (v := 0) dX4_init_174 (by decide) ?_
          refine J_istore_n dX4_init_175 rfl (by decide) ?_
          have L176 : ∀ (N : Nat) (V : jH) (i2 : Int32), WTx (fun _ => False) V → jeff [.inr 2] V0 V → jis V (.inl 8) b7 → jis V (.inl 1) b15 → jis V (.inl 37) b23 → jis V (.inl 38) b31 → jis V (.inl 13) b39 → jis V (.inl 9) b47 → jis V (.inl 2) b137 → jis V (.inr 2) q → (V q = some (.inr (2, fsq))) → (jokO V (jFs 2) fsq) → (0 ≤ i2.toInt) → (2147483648 - i2.toInt).toNat < N → J tS mX4_init d 176 [some (.ref q), none, some (.int i2)] [] V 0 0 (fun r V => r = none ∧ WTx (fun _ => False) V ∧ jeff [.inr 2] V0 V ∧ jis V (.inr 2) q) := by
            intro N
            induction N with
            | zero => intro V i2 hW he hb7 hb15 hb23 hb31 hb39 hb47 hb137 hq0 hOq hKq hi2 hm; exact absurd hm (Nat.not_lt_zero _)
            | succ N ih =>
              intro V i2 hW he hb7 hb15 hb23 hb31 hb39 hb47 hb137 hq0 hOq hKq hi2 hm
              have ih176 := ih
              refine J_iload_n dX4_init_176 rfl ?_
              refine J_aload_n dX4_init_177 rfl ?_
              refine J_get jf_X4_25 dX4_init_178 hOq hFq8 ?_
              obtain ⟨n181, f181, hA181, hN181, hM181, hv181⟩ := WT_arrI (r := (-2147483648, 2147483647)) hW (fun h => h) rfl hb39
              obtain rfl := hM181 8 rfl
              refine J_alen (v := Int32.ofNat 8) dX4_init_181 hA181 rfl rfl ?_
              refine J_icmp_ge (tgt := 198) dX4_init_182 (by decide) (fun c182 => ?_) (fun c182 => ?_)
              · refine J_iconst (v := 0) dX4_init_198 (by decide) ?_
                refine J_istore_n dX4_init_199 rfl (by decide) ?_
                have L200 : ∀ (N : Nat) (V : jH) (i2 : Int32), WTx (fun _ => False) V → jeff [.inr 2] V0 V → jis V (.inl 8) b7 → jis V (.inl 1) b15 → jis V (.inl 37) b23 → jis V (.inl 38) b31 → jis V (.inl 13) b39 → jis V (.inl 9) b47 → jis V (.inl 2) b137 → jis V (.inr 2) q → (V q = some (.inr (2, fsq))) → (jokO V (jFs 2) fsq) → (0 ≤ i2.toInt) → (2147483648 - i2.toInt).toNat < N → J tS mX4_init d 200 [some (.ref q), none, some (.int i2)] [] V 0 0 (fun r V => r = none ∧ WTx (fun _ => False) V ∧ jeff [.inr 2] V0 V ∧ jis V (.inr 2) q) := by
                  intro N
                  induction N with
                  | zero => intro V i2 hW he hb7 hb15 hb23 hb31 hb39 hb47 hb137 hq0 hOq hKq hi2 hm; exact absurd hm (Nat.not_lt_zero _)
                  | succ N ih =>
                    intro V i2 hW he hb7 hb15 hb23 hb31 hb39 hb47 hb137 hq0 hOq hKq hi2 hm
                    have ih200 := ih
                    refine J_iload_n dX4_init_200 rfl ?_
                    refine J_aload_n dX4_init_201 rfl ?_
                    refine J_get jf_X4_28 dX4_init_202 hOq hFq9 ?_
                    obtain ⟨n205, f205, hA205, hN205, hM205, hv205⟩ := WT_arrI (r := (-2147483648, 2147483647)) hW (fun h => h) rfl hb47
                    obtain rfl := hM205 7 rfl
                    refine J_alen (v := Int32.ofNat 7) dX4_init_205 hA205 rfl rfl ?_
                    refine J_icmp_ge (tgt := 222) dX4_init_206 (by decide) (fun c206 => ?_) (fun c206 => ?_)
                    · exact J_ret (r := none) dX4_init_222 ⟨rfl, rfl⟩ (⟨rfl, hW, he, hq0⟩)
                    · refine J_aload_n dX4_init_209 rfl ?_
                      refine J_get jf_X4_28 dX4_init_210 hOq hFq9 ?_
                      refine J_iload_n dX4_init_213 rfl ?_
                      refine J_iconst (v := -1) dX4_init_214 (by decide) ?_
                      refine Jw_iast hW (fun h => h) dX4_init_215 hA205 rfl rfl (by first | exact vp_in_g (by assumption) (by assumption) (by assumption) | exact vp_in_g1 (by assumption) (by assumption) (by assumption) | exact vp_in_g2 (by assumption) (by assumption) (by assumption) | exact vp_in_g3 (by assumption) (by assumption) (by assumption) | exact vp_in_n (by omega) (by omega)) (j_rng _).1 (j_rng _).2 (fun V215 hW hx215 hy215 => ?_)
                      have he := he.fresh hz47 hy215
                      have hb7 := hb7.mono hx215.1
                      have hb15 := hb15.mono hx215.1
                      have hb23 := hb23.mono hx215.1
                      have hb31 := hb31.mono hx215.1
                      have hb39 := hb39.mono hx215.1
                      have hb47 := hb47.mono hx215.1
                      have hb137 := hb137.mono hx215.1
                      have hq0 := hq0.mono hx215.1
                      have hOq := hx215.2 _ _ hOq (jnot_of rfl)
                      have hKq := hKq.mono hx215.1
                      refine J_iinc dX4_init_216 rfl j_inc1 rfl (by decide) ?_
                      refine J_goto (tgt := 200) dX4_init_219 (by decide) ?_
                      refine J.mask [true, false, true] ?_
                      exact ih200 _ _ hW he hb7 hb15 hb23 hb31 hb39 hb47 hb137 hq0 hOq hKq (by have h8 := j_rng i2; have h9 := jm_up (Int32.not_le.mp c206); omega) (jdec_up (Int32.not_le.mp c206) (by assumption))
                refine J.mask [true, false, true] ?_
                exact L200 _ _ _ hW he hb7 hb15 hb23 hb31 hb39 hb47 hb137 hq0 hOq hKq (by decide) (Nat.lt_succ_self _)
              · refine J_aload_n dX4_init_185 rfl ?_
                refine J_get jf_X4_25 dX4_init_186 hOq hFq8 ?_
                refine J_iload_n dX4_init_189 rfl ?_
                refine J_iconst (v := -1) dX4_init_190 (by decide) ?_
                refine Jw_iast hW (fun h => h) dX4_init_191 hA181 rfl rfl (by first | exact vp_in_g (by assumption) (by assumption) (by assumption) | exact vp_in_g1 (by assumption) (by assumption) (by assumption) | exact vp_in_g2 (by assumption) (by assumption) (by assumption) | exact vp_in_g3 (by assumption) (by assumption) (by assumption) | exact vp_in_n (by omega) (by omega)) (j_rng _).1 (j_rng _).2 (fun V191 hW hx191 hy191 => ?_)
                have he := he.fresh hz39 hy191
                have hb7 := hb7.mono hx191.1
                have hb15 := hb15.mono hx191.1
                have hb23 := hb23.mono hx191.1
                have hb31 := hb31.mono hx191.1
                have hb39 := hb39.mono hx191.1
                have hb47 := hb47.mono hx191.1
                have hb137 := hb137.mono hx191.1
                have hq0 := hq0.mono hx191.1
                have hOq := hx191.2 _ _ hOq (jnot_of rfl)
                have hKq := hKq.mono hx191.1
                refine J_iinc dX4_init_192 rfl j_inc1 rfl (by decide) ?_
                refine J_goto (tgt := 176) dX4_init_195 (by decide) ?_
                refine J.mask [true, false, true] ?_
                exact ih176 _ _ hW he hb7 hb15 hb23 hb31 hb39 hb47 hb137 hq0 hOq hKq (by have h8 := j_rng i2; have h9 := jm_up (Int32.not_le.mp c182); omega) (jdec_up (Int32.not_le.mp c182) (by assumption))
          refine J.mask [true, false, true] ?_
          exact L176 _ _ _ hW he hb7 hb15 hb23 hb31 hb39 hb47 hb137 hq0 hOq hKq (by decide) (Nat.lt_succ_self _)
        · refine J_aload_n dX4_init_153 rfl ?_
          refine J_get jf_X4_9 dX4_init_154 hOq hFq4 ?_
          refine J_iload_n dX4_init_157 rfl ?_
          refine J_iload_n dX4_init_158 rfl ?_
          refine J_if_ne (tgt := 166) dX4_init_159 (by decide) (fun c159 => ?_) (fun c159 => ?_)
          · refine J_iconst (v := 0) dX4_init_166 (by decide) ?_
            refine Jw_iast hW (fun h => h) dX4_init_167 hA149 rfl rfl (by first | exact vp_in_g (by assumption) (by assumption) (by assumption) | exact vp_in_g1 (by assumption) (by assumption) (by assumption) | exact vp_in_g2 (by assumption) (by assumption) (by assumption) | exact vp_in_g3 (by assumption) (by assumption) (by assumption) | exact vp_in_n (by omega) (by omega)) (j_rng _).1 (j_rng _).2 (fun V167 hW hx167 hy167 => ?_)
            have he := he.fresh hz7 hy167
            have hb7 := hb7.mono hx167.1
            have hb15 := hb15.mono hx167.1
            have hb23 := hb23.mono hx167.1
            have hb31 := hb31.mono hx167.1
            have hb39 := hb39.mono hx167.1
            have hb47 := hb47.mono hx167.1
            have hb137 := hb137.mono hx167.1
            have hq0 := hq0.mono hx167.1
            have hOq := hx167.2 _ _ hOq (jnot_of rfl)
            have hKq := hKq.mono hx167.1
            refine J_iinc dX4_init_168 rfl j_inc1 rfl (by decide) ?_
            refine J_goto (tgt := 144) dX4_init_171 (by decide) ?_
            refine J.mask [true, false, true] ?_
            exact ih144 _ _ hW he hb7 hb15 hb23 hb31 hb39 hb47 hb137 hq0 hOq hKq (by have h8 := j_rng i2; have h9 := jm_up (Int32.not_le.mp c150); omega) (jdec_up (Int32.not_le.mp c150) (by assumption))
          · refine J_iconst (v := 1) dX4_init_162 (by decide) ?_
            refine J_goto (tgt := 167) dX4_init_163 (by decide) ?_
            refine Jw_iast hW (fun h => h) dX4_init_167 hA149 rfl rfl (by first | exact vp_in_g (by assumption) (by assumption) (by assumption) | exact vp_in_g1 (by assumption) (by assumption) (by assumption) | exact vp_in_g2 (by assumption) (by assumption) (by assumption) | exact vp_in_g3 (by assumption) (by assumption) (by assumption) | exact vp_in_n (by omega) (by omega)) (j_rng _).1 (j_rng _).2 (fun V167 hW hx167 hy167 => ?_)
            have he := he.fresh hz7 hy167
            have hb7 := hb7.mono hx167.1
            have hb15 := hb15.mono hx167.1
            have hb23 := hb23.mono hx167.1
            have hb31 := hb31.mono hx167.1
            have hb39 := hb39.mono hx167.1
            have hb47 := hb47.mono hx167.1
            have hb137 := hb137.mono hx167.1
            have hq0 := hq0.mono hx167.1
            have hOq := hx167.2 _ _ hOq (jnot_of rfl)
            have hKq := hKq.mono hx167.1
            refine J_iinc dX4_init_168 rfl j_inc1 rfl (by decide) ?_
            refine J_goto (tgt := 144) dX4_init_171 (by decide) ?_
            refine J.mask [true, false, true] ?_
            exact ih144 _ _ hW he hb7 hb15 hb23 hb31 hb39 hb47 hb137 hq0 hOq hKq (by have h8 := j_rng i2; have h9 := jm_up (Int32.not_le.mp c150); omega) (jdec_up (Int32.not_le.mp c150) (by assumption))
    refine J.mask [true, false, true] ?_
    exact L144 _ _ _ hW he hb7 hb15 hb23 hb31 hb39 hb47 hb137 hq0 hOq hKq (by decide) (Nat.lt_succ_self _)
  · refine J_bipush (v := 12) dX4_init_83 (by decide) ?_
    refine J_goto (tgt := 90) dX4_init_85 (by decide) ?_
    refine Jc_putF jf_X4_48 jt_X4_1 rfl (fun _ h => by cases h; rfl) dX4_init_90 hq rfl rfl (Nat.le_of_ble_eq_true rfl) (fun _ h => by cases h) hW (fun V90 hq hW hx90 hB90 => ?_)
    have he := he.trans (hx90.sub (jsub_of rfl))
    have hb7 := hb7.mono hx90.1
    have hb15 := hb15.mono hx90.1
    have hb23 := hb23.mono hx90.1
    have hb31 := hb31.mono hx90.1
    have hb39 := hb39.mono hx90.1
    have hb47 := hb47.mono hx90.1
    refine J_aload_n dX4_init_93 rfl ?_
    refine J_iconst (v := 2) dX4_init_94 (by decide) ?_
    refine J_aload_n dX4_init_95 rfl ?_
    refine J_get jf_X4_48 dX4_init_96 hq rfl ?_
    refine J_imul dX4_init_99 ?_
    refine J_iconst (v := 1) dX4_init_100 (by decide) ?_
    refine J_iadd dX4_init_101 ?_
    refine Jc_putF jf_X4_51 jt_X4_2 rfl (fun _ h => by cases h; rfl) dX4_init_102 hq rfl rfl (Nat.le_of_ble_eq_true rfl) (fun _ h => by cases h) hW (fun V102 hq hW hx102 hB102 => ?_)
    have he := he.trans (hx102.sub (jsub_of rfl))
    have hb7 := hb7.mono hx102.1
    have hb15 := hb15.mono hx102.1
    have hb23 := hb23.mono hx102.1
    have hb31 := hb31.mono hx102.1
    have hb39 := hb39.mono hx102.1
    have hb47 := hb47.mono hx102.1
    refine J_aload_n dX4_init_105 rfl ?_
    refine J_iload_n dX4_init_106 rfl ?_
    refine J_iconst (v := 3) dX4_init_107 (by decide) ?_
    refine J_icmp_ne (tgt := 128) dX4_init_108 (by decide) (fun c108 => absurd c108 (fun z => z c80)) (fun c108 => ?_)
    refine J_aload_n dX4_init_111 rfl ?_
    refine J_get jf_X4_51 dX4_init_112 hq rfl ?_
    refine J_aload_n dX4_init_115 rfl ?_
    refine J_get jf_X4_51 dX4_init_116 hq rfl ?_
    refine J_imul dX4_init_119 ?_
    refine J_aload_n dX4_init_120 rfl ?_
    refine J_get jf_X4_51 dX4_init_121 hq rfl ?_
    refine J_imul dX4_init_124 ?_
    refine J_goto (tgt := 137) dX4_init_125 (by decide) ?_
    refine Jc_newa (atype := .boolean) (t := 2) (B := 15625) (x := .inl (fun _ => 0)) jw_ac_boolean rfl (fun _ h => by cases h) (by decide) dX4_init_137 (by decide) (by decide) (by decide) (fun _ _ => rfl) (fun hN => jok_zI rfl (by decide) (by decide) (fun m h => by cases h <;> rfl) hN) (by decide) (by decide) hW (fun b137 V137 hn137 hb137 hk137 hW hx137 => ?_)
    have hz137 := he.1.none hn137
    have he := he.trans (hx137.sub (jsub_of rfl))
    have hb7 := hb7.mono hx137.1
    have hb15 := hb15.mono hx137.1
    have hb23 := hb23.mono hx137.1
    have hb31 := hb31.mono hx137.1
    have hb39 := hb39.mono hx137.1
    have hb47 := hb47.mono hx137.1
    have hq := hk137 _ _ hq
    refine Jc_putF jf_X4_54 jt_X4_3 rfl (fun _ h => by cases h; rfl) dX4_init_139 hq rfl rfl (Nat.le_of_ble_eq_true rfl) (fun _ h => by cases h) hW (fun V139 hq hW hx139 hB139 => ?_)
    have he := he.trans (hx139.sub (jsub_of rfl))
    have hb7 := hb7.mono hx139.1
    have hb15 := hb15.mono hx139.1
    have hb23 := hb23.mono hx139.1
    have hb31 := hb31.mono hx139.1
    have hb39 := hb39.mono hx139.1
    have hb47 := hb47.mono hx139.1
    have hb137 := hb137.mono hx139.1
    have hW := hW.fin hq (jokO_cons ⟨_, rfl, (j_rng _).1, (j_rng _).2⟩ (jokO_cons ⟨_, rfl, by first | decide | assumption | omega, by first | decide | assumption | omega⟩ (jokO_cons ⟨_, rfl, (j_rng _).1, (j_rng _).2⟩ (jokO_cons ⟨_, rfl, hb137⟩ (jokO_cons ⟨_, rfl, hb7⟩ (jokO_cons ⟨_, rfl, hb15⟩ (jokO_cons ⟨_, rfl, hb23⟩ (jokO_cons ⟨_, rfl, hb31⟩ (jokO_cons ⟨_, rfl, hb39⟩ (jokO_cons ⟨_, rfl, hb47⟩ (jokO_cons ⟨_, rfl, by first | decide | assumption | omega, by first | decide | assumption | omega⟩ (jokO_cons ⟨_, rfl, by first | decide | assumption | omega, by first | decide | assumption | omega⟩ (jokO_cons ⟨_, rfl, (j_rng _).1, (j_rng _).2⟩ (jokO_cons ⟨_, rfl, by first | decide | assumption | omega, by first | decide | assumption | omega⟩ (jokO_nil)))))))))))))))
    have hq0 : jis _ (.inr 2) q := ⟨_, hq, rfl⟩
    obtain ⟨fsq, hOq, hFq3, hFq4, hFq5, hFq6, hFq7, hFq8, hFq9⟩ : ∃ fs : List Value, V139 q = some (.inr (2, fs)) ∧ fs[3]? = some (.ref b137) ∧ fs[4]? = some (.ref b7) ∧ fs[5]? = some (.ref b15) ∧ fs[6]? = some (.ref b23) ∧ fs[7]? = some (.ref b31) ∧ fs[8]? = some (.ref b39) ∧ fs[9]? = some (.ref b47) := ⟨_, hq, rfl, rfl, rfl, rfl, rfl, rfl, rfl⟩
    have hKq : jokO V139 (jFs 2) fsq := hW _ _ (fun h => h) hOq
    refine J_iconst (v := 0) dX4_init_142 (by decide) ?_
    refine J_istore_n dX4_init_143 rfl (by decide) ?_
    have L144 : ∀ (N : Nat) (V : jH) (i2 : Int32), WTx (fun _ => False) V → jeff [.inr 2] V0 V → jis V (.inl 8) b7 → jis V (.inl 1) b15 → jis V (.inl 37) b23 → jis V (.inl 38) b31 → jis V (.inl 13) b39 → jis V (.inl 9) b47 → jis V (.inl 2) b137 → jis V (.inr 2) q → (V q = some (.inr (2, fsq))) → (jokO V (jFs 2) fsq) → (0 ≤ i2.toInt) → (2147483648 - i2.toInt).toNat < N → J tS mX4_init d 144 [some (.ref q), none, some (.int i2)] [] V 0 0 (fun r V => r = none ∧ WTx (fun _ => False) V ∧ jeff [.inr 2] V0 V ∧ jis V (.inr 2) q) := by
      intro N
      induction N with
      | zero => intro V i2 hW he hb7 hb15 hb23 hb31 hb39 hb47 hb137 hq0 hOq hKq hi2 hm; exact absurd hm (Nat.not_lt_zero _)
      | succ N ih =>
        intro V i2 hW he hb7 hb15 hb23 hb31 hb39 hb47 hb137 hq0 hOq hKq hi2 hm
        have ih144 := ih
        refine J_iload_n dX4_init_144 rfl ?_
        refine J_aload_n dX4_init_145 rfl ?_
        refine J_get jf_X4_9 dX4_init_146 hOq hFq4 ?_
        obtain ⟨n149, f149, hA149, hN149, hM149, hv149⟩ := WT_arrI (r := (-2147483648, 2147483647)) hW (fun h => h) rfl hb7
        obtain rfl := hM149 21 rfl
        refine J_alen (v := Int32.ofNat 21) dX4_init_149 hA149 rfl rfl ?_
        refine J_icmp_ge (tgt := 174) dX4_init_150 (by decide) (fun c150 => ?_) (fun c150 => ?_)
        · refine J_iconst (v := 0) dX4_init_174 (by decide) ?_
          refine J_istore_n dX4_init_175 rfl (by decide) ?_
          have L176 : ∀ (N : Nat) (V : jH) (i2 : Int32), WTx (fun _ => False) V → jeff [.inr 2] V0 V → jis V (.inl 8) b7 → jis V (.inl 1) b15 → jis V (.inl 37) b23 → jis V (.inl 38) b31 → jis V (.inl 13) b39 → jis V (.inl 9) b47 → jis V (.inl 2) b137 → jis V (.inr 2) q → (V q = some (.inr (2, fsq))) → (jokO V (jFs 2) fsq) → (0 ≤ i2.toInt) → (2147483648 - i2.toInt).toNat < N → J tS mX4_init d 176 [some (.ref q), none, some (.int i2)] [] V 0 0 (fun r V => r = none ∧ WTx (fun _ => False) V ∧ jeff [.inr 2] V0 V ∧ jis V (.inr 2) q) := by
            intro N
            induction N with
            | zero => intro V i2 hW he hb7 hb15 hb23 hb31 hb39 hb47 hb137 hq0 hOq hKq hi2 hm; exact absurd hm (Nat.not_lt_zero _)
            | succ N ih =>
              intro V i2 hW he hb7 hb15 hb23 hb31 hb39 hb47 hb137 hq0 hOq hKq hi2 hm
              have ih176 := ih
              refine J_iload_n dX4_init_176 rfl ?_
              refine J_aload_n dX4_init_177 rfl ?_
              refine J_get jf_X4_25 dX4_init_178 hOq hFq8 ?_
              obtain ⟨n181, f181, hA181, hN181, hM181, hv181⟩ := WT_arrI (r := (-2147483648, 2147483647)) hW (fun h => h) rfl hb39
              obtain rfl := hM181 8 rfl
              refine J_alen (v := Int32.ofNat 8) dX4_init_181 hA181 rfl rfl ?_
              refine J_icmp_ge (tgt := 198) dX4_init_182 (by decide) (fun c182 => ?_) (fun c182 => ?_)
              · refine J_iconst (v := 0) dX4_init_198 (by decide) ?_
                refine J_istore_n dX4_init_199 rfl (by decide) ?_
                have L200 : ∀ (N : Nat) (V : jH) (i2 : Int32), WTx (fun _ => False) V → jeff [.inr 2] V0 V → jis V (.inl 8) b7 → jis V (.inl 1) b15 → jis V (.inl 37) b23 → jis V (.inl 38) b31 → jis V (.inl 13) b39 → jis V (.inl 9) b47 → jis V (.inl 2) b137 → jis V (.inr 2) q → (V q = some (.inr (2, fsq))) → (jokO V (jFs 2) fsq) → (0 ≤ i2.toInt) → (2147483648 - i2.toInt).toNat < N → J tS mX4_init d 200 [some (.ref q), none, some (.int i2)] [] V 0 0 (fun r V => r = none ∧ WTx (fun _ => False) V ∧ jeff [.inr 2] V0 V ∧ jis V (.inr 2) q) := by
                  intro N
                  induction N with
                  | zero => intro V i2 hW he hb7 hb15 hb23 hb31 hb39 hb47 hb137 hq0 hOq hKq hi2 hm; exact absurd hm (Nat.not_lt_zero _)
                  | succ N ih =>
                    intro V i2 hW he hb7 hb15 hb23 hb31 hb39 hb47 hb137 hq0 hOq hKq hi2 hm
                    have ih200 := ih
                    refine J_iload_n dX4_init_200 rfl ?_
                    refine J_aload_n dX4_init_201 rfl ?_
                    refine J_get jf_X4_28 dX4_init_202 hOq hFq9 ?_
                    obtain ⟨n205, f205, hA205, hN205, hM205, hv205⟩ := WT_arrI (r := (-2147483648, 2147483647)) hW (fun h => h) rfl hb47
                    obtain rfl := hM205 7 rfl
                    refine J_alen (v := Int32.ofNat 7) dX4_init_205 hA205 rfl rfl ?_
                    refine J_icmp_ge (tgt := 222) dX4_init_206 (by decide) (fun c206 => ?_) (fun c206 => ?_)
                    · exact J_ret (r := none) dX4_init_222 ⟨rfl, rfl⟩ (⟨rfl, hW, he, hq0⟩)
                    · refine J_aload_n dX4_init_209 rfl ?_
                      refine J_get jf_X4_28 dX4_init_210 hOq hFq9 ?_
                      refine J_iload_n dX4_init_213 rfl ?_
                      refine J_iconst (v := -1) dX4_init_214 (by decide) ?_
                      refine Jw_iast hW (fun h => h) dX4_init_215 hA205 rfl rfl (by first | exact vp_in_g (by assumption) (by assumption) (by assumption) | exact vp_in_g1 (by assumption) (by assumption) (by assumption) | exact vp_in_g2 (by assumption) (by assumption) (by assumption) | exact vp_in_g3 (by assumption) (by assumption) (by assumption) | exact vp_in_n (by omega) (by omega)) (j_rng _).1 (j_rng _).2 (fun V215 hW hx215 hy215 => ?_)
                      have he := he.fresh hz47 hy215
                      have hb7 := hb7.mono hx215.1
                      have hb15 := hb15.mono hx215.1
                      have hb23 := hb23.mono hx215.1
                      have hb31 := hb31.mono hx215.1
                      have hb39 := hb39.mono hx215.1
                      have hb47 := hb47.mono hx215.1
                      have hb137 := hb137.mono hx215.1
                      have hq0 := hq0.mono hx215.1
                      have hOq := hx215.2 _ _ hOq (jnot_of rfl)
                      have hKq := hKq.mono hx215.1
                      refine J_iinc dX4_init_216 rfl j_inc1 rfl (by decide) ?_
                      refine J_goto (tgt := 200) dX4_init_219 (by decide) ?_
                      refine J.mask [true, false, true] ?_
                      exact ih200 _ _ hW he hb7 hb15 hb23 hb31 hb39 hb47 hb137 hq0 hOq hKq (by have h8 := j_rng i2; have h9 := jm_up (Int32.not_le.mp c206); omega) (jdec_up (Int32.not_le.mp c206) (by assumption))
                refine J.mask [true, false, true] ?_
                exact L200 _ _ _ hW he hb7 hb15 hb23 hb31 hb39 hb47 hb137 hq0 hOq hKq (by decide) (Nat.lt_succ_self _)
              · refine J_aload_n dX4_init_185 rfl ?_
                refine J_get jf_X4_25 dX4_init_186 hOq hFq8 ?_
                refine J_iload_n dX4_init_189 rfl ?_
                refine J_iconst (v := -1) dX4_init_190 (by decide) ?_
                refine Jw_iast hW (fun h => h) dX4_init_191 hA181 rfl rfl (by first | exact vp_in_g (by assumption) (by assumption) (by assumption) | exact vp_in_g1 (by assumption) (by assumption) (by assumption) | exact vp_in_g2 (by assumption) (by assumption) (by assumption) | exact vp_in_g3 (by assumption) (by assumption) (by assumption) | exact vp_in_n (by omega) (by omega)) (j_rng _).1 (j_rng _).2 (fun V191 hW hx191 hy191 => ?_)
                have he := he.fresh hz39 hy191
                have hb7 := hb7.mono hx191.1
                have hb15 := hb15.mono hx191.1
                have hb23 := hb23.mono hx191.1
                have hb31 := hb31.mono hx191.1
                have hb39 := hb39.mono hx191.1
                have hb47 := hb47.mono hx191.1
                have hb137 := hb137.mono hx191.1
                have hq0 := hq0.mono hx191.1
                have hOq := hx191.2 _ _ hOq (jnot_of rfl)
                have hKq := hKq.mono hx191.1
                refine J_iinc dX4_init_192 rfl j_inc1 rfl (by decide) ?_
                refine J_goto (tgt := 176) dX4_init_195 (by decide) ?_
                refine J.mask [true, false, true] ?_
                exact ih176 _ _ hW he hb7 hb15 hb23 hb31 hb39 hb47 hb137 hq0 hOq hKq (by have h8 := j_rng i2; have h9 := jm_up (Int32.not_le.mp c182); omega) (jdec_up (Int32.not_le.mp c182) (by assumption))
          refine J.mask [true, false, true] ?_
          exact L176 _ _ _ hW he hb7 hb15 hb23 hb31 hb39 hb47 hb137 hq0 hOq hKq (by decide) (Nat.lt_succ_self _)
        · refine J_aload_n dX4_init_153 rfl ?_
          refine J_get jf_X4_9 dX4_init_154 hOq hFq4 ?_
          refine J_iload_n dX4_init_157 rfl ?_
          refine J_iload_n dX4_init_158 rfl ?_
          refine J_if_ne (tgt := 166) dX4_init_159 (by decide) (fun c159 => ?_) (fun c159 => ?_)
          · refine J_iconst (v := 0) dX4_init_166 (by decide) ?_
            refine Jw_iast hW (fun h => h) dX4_init_167 hA149 rfl rfl (by first | exact vp_in_g (by assumption) (by assumption) (by assumption) | exact vp_in_g1 (by assumption) (by assumption) (by assumption) | exact vp_in_g2 (by assumption) (by assumption) (by assumption) | exact vp_in_g3 (by assumption) (by assumption) (by assumption) | exact vp_in_n (by omega) (by omega)) (j_rng _).1 (j_rng _).2 (fun V167 hW hx167 hy167 => ?_)
            have he := he.fresh hz7 hy167
            have hb7 := hb7.mono hx167.1
            have hb15 := hb15.mono hx167.1
            have hb23 := hb23.mono hx167.1
            have hb31 := hb31.mono hx167.1
            have hb39 := hb39.mono hx167.1
            have hb47 := hb47.mono hx167.1
            have hb137 := hb137.mono hx167.1
            have hq0 := hq0.mono hx167.1
            have hOq := hx167.2 _ _ hOq (jnot_of rfl)
            have hKq := hKq.mono hx167.1
            refine J_iinc dX4_init_168 rfl j_inc1 rfl (by decide) ?_
            refine J_goto (tgt := 144) dX4_init_171 (by decide) ?_
            refine J.mask [true, false, true] ?_
            exact ih144 _ _ hW he hb7 hb15 hb23 hb31 hb39 hb47 hb137 hq0 hOq hKq (by have h8 := j_rng i2; have h9 := jm_up (Int32.not_le.mp c150); omega) (jdec_up (Int32.not_le.mp c150) (by assumption))
          · refine J_iconst (v := 1) dX4_init_162 (by decide) ?_
            refine J_goto (tgt := 167) dX4_init_163 (by decide) ?_
            refine Jw_iast hW (fun h => h) dX4_init_167 hA149 rfl rfl (by first | exact vp_in_g (by assumption) (by assumption) (by assumption) | exact vp_in_g1 (by assumption) (by assumption) (by assumption) | exact vp_in_g2 (by assumption) (by assumption) (by assumption) | exact vp_in_g3 (by assumption) (by assumption) (by assumption) | exact vp_in_n (by omega) (by omega)) (j_rng _).1 (j_rng _).2 (fun V167 hW hx167 hy167 => ?_)
            have he := he.fresh hz7 hy167
            have hb7 := hb7.mono hx167.1
            have hb15 := hb15.mono hx167.1
            have hb23 := hb23.mono hx167.1
            have hb31 := hb31.mono hx167.1
            have hb39 := hb39.mono hx167.1
            have hb47 := hb47.mono hx167.1
            have hb137 := hb137.mono hx167.1
            have hq0 := hq0.mono hx167.1
            have hOq := hx167.2 _ _ hOq (jnot_of rfl)
            have hKq := hKq.mono hx167.1
            refine J_iinc dX4_init_168 rfl j_inc1 rfl (by decide) ?_
            refine J_goto (tgt := 144) dX4_init_171 (by decide) ?_
            refine J.mask [true, false, true] ?_
            exact ih144 _ _ hW he hb7 hb15 hb23 hb31 hb39 hb47 hb137 hq0 hOq hKq (by have h8 := j_rng i2; have h9 := jm_up (Int32.not_le.mp c150); omega) (jdec_up (Int32.not_le.mp c150) (by assumption))
    refine J.mask [true, false, true] ?_
    exact L144 _ _ _ hW he hb7 hb15 hb23 hb31 hb39 hb47 hb137 hq0 hOq hKq (by decide) (Nat.lt_succ_self _)
