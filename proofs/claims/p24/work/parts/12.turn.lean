set_option maxRecDepth 100000 in
set_option maxHeartbeats 4000000 in
theorem w_X5_markWalks {tS : jTS} : ∀ (K d : Nat) (V0 : jH) (a0 : Nat) (a1 : Nat) (x2 : Int32) (x3 : Int32), 4 + K ≤ d → WT V0 → jis V0 (.inr 3) a0 → jis V0 (.inr 1) a1 → 0 ≤ x2.toInt → x2.toInt ≤ 6 → (7 - x2.toInt).toNat < K → jTot tS mX5_markWalks d [.ref a0, .ref a1, .int x2, .int x3] V0 0 0 (jPost [.inr 1, .inl 6, .inl 3] V0 rV) := by
  intro K
  induction K with
  | zero => intro d V0 a0 a1 x2 x3 hd hW ha0 ha1 hl2 hh2 hrk; exact absurd hrk (Nat.not_lt_zero _)
  | succ K IH =>
  intro d V0 a0 a1 x2 x3 hd hW ha0 ha1 hl2 hh2 hrk
  refine jTot.of_J [some (.ref a0), some (.ref a1), some (.int x2), some (.int x3), none] moX5_markWalks (Nat.le_of_ble_eq_true rfl) rfl ?_
  have he : jeff [.inr 1, .inl 6, .inl 3] V0 V0 := jeff.refl _ _
  refine J_iload_n dX5_markWalks_0 rfl ?_
  refine J_aload_n dX5_markWalks_1 rfl ?_
  obtain ⟨fs2, hO2, hK2⟩ := WT_obj hW id ha0
  obtain ⟨w2, hF2, y2, rfl, hl2, hh2⟩ := hK2.2 1 (.inl (0, 6)) rfl
  dsimp only at hl2 hh2
  refine J_get jf_X5_31 dX5_markWalks_2 hO2 hF2 ?_
  refine J_icmp_ge (tgt := 14) dX5_markWalks_5 (by decide) (fun c5 => ?_) (fun c5 => ?_)
  · refine J_iload_n dX5_markWalks_14 rfl ?_
    refine J_if_lt (tgt := 34) dX5_markWalks_15 (by decide) (fun c15 => ?_) (fun c15 => ?_)
    · exact J_ret (r := none) dX5_markWalks_34 ⟨rfl, rfl⟩ (⟨hW, he, rfl⟩)
    · refine J_iload_n dX5_markWalks_18 rfl ?_
      refine J_aload_n dX5_markWalks_19 rfl ?_
      obtain ⟨w20, hF20, b20, rfl, hb20⟩ := hK2.2 3 (.inr (some (.inl 3))) rfl
      refine J_get jf_X5_43 dX5_markWalks_20 hO2 hF20 ?_
      obtain ⟨n23, f23, hA23, hN23, hM23, hv23⟩ := WT_arrI (r := (-128, 127)) hW id rfl hb20
      refine J_alen (v := Int32.ofNat n23) dX5_markWalks_23 hA23 rfl rfl ?_
      refine J_icmp_ge (tgt := 34) dX5_markWalks_24 (by decide) (fun c24 => ?_) (fun c24 => ?_)
      · exact J_ret (r := none) dX5_markWalks_34 ⟨rfl, rfl⟩ (⟨hW, he, rfl⟩)
      · refine J_aload_n dX5_markWalks_27 rfl ?_
        refine J_get jf_X5_43 dX5_markWalks_28 hO2 hF20 ?_
        refine J_iload_n dX5_markWalks_31 rfl ?_
        refine J_iconst (v := 1) dX5_markWalks_32 (by decide) ?_
        refine Jw_bast hW id dX5_markWalks_33 hA23 rfl rfl (by first | exact vp_in_g (by assumption) (by assumption) (by assumption) | exact vp_in_g1 (by assumption) (by assumption) (by assumption) | exact vp_in_g2 (by assumption) (by assumption) (by assumption) | exact vp_in_g3 (by assumption) (by assumption) (by assumption) | exact vp_in_n (by omega) (by omega)) (by first | decide | assumption | omega) (by first | decide | assumption | omega) rfl (fun V33 hW hx33 hy33 => ?_)
        have he := he.trans (hx33.sub (jsub_of rfl))
        have ha0 := ha0.mono hx33.1
        have ha1 := ha1.mono hx33.1
        have hb20 := hb20.mono hx33.1
        have hO2 := hx33.2 _ _ hO2 (jnot_of rfl)
        have hK2 := hK2.mono hx33.1
        exact J_ret (r := none) dX5_markWalks_34 ⟨rfl, rfl⟩ (⟨hW, he, rfl⟩)
  · refine J_iload_n dX5_markWalks_8 rfl ?_
    refine J_bipush (v := 6) dX5_markWalks_9 (by decide) ?_
    refine J_icmp_lt (tgt := 35) dX5_markWalks_11 (by decide) (fun c11 => ?_) (fun c11 => ?_)
    · refine J_iconst (v := 0) dX5_markWalks_35 (by decide) ?_
      refine J_istore dX5_markWalks_36 rfl (by decide) ?_
      have L38 : ∀ (N : Nat) (V : jH) (i4 : Int32), WT V → jeff [.inr 1, .inl 6, .inl 3] V0 V → jis V (.inr 3) a0 → jis V (.inr 1) a1 → (2147483648 - i4.toInt).toNat < N → J tS mX5_markWalks d 38 [some (.ref a0), some (.ref a1), some (.int x2), some (.int x3), some (.int i4)] [] V 0 0 (jPost [.inr 1, .inl 6, .inl 3] V0 rV) := by
        intro N
        induction N with
        | zero => intro V i4 hW he ha0 ha1  hm; exact absurd hm (Nat.not_lt_zero _)
        | succ N ih =>
          intro V i4 hW he ha0 ha1  hm
          have ih38 := ih
          refine J_iload dX5_markWalks_38 rfl ?_
          refine J_aload_n dX5_markWalks_40 rfl ?_
          obtain ⟨fs41, hO41, hK41⟩ := WT_obj hW id ha0
          obtain ⟨w41, hF41, y41, rfl, hl41, hh41⟩ := hK41.2 2 (.inl ((-2147483648), 2147483647)) rfl
          dsimp only at hl41 hh41
          refine J_get jf_X5_40 dX5_markWalks_41 hO41 hF41 ?_
          refine J_icmp_ge (tgt := 84) dX5_markWalks_44 (by decide) (fun c44 => ?_) (fun c44 => ?_)
          · exact J_ret (r := none) dX5_markWalks_84 ⟨rfl, rfl⟩ (⟨hW, he, rfl⟩)
          · refine J_aload_n dX5_markWalks_47 rfl ?_
            refine J_iload dX5_markWalks_48 rfl ?_
            refine Jw_callV1 (q9 := (RX3, TX3, 7)) moX3_lay jw_ml_X5_72 jw_im_X3_lay jw_se_X3_lay ha1 rfl rfl dX5_markWalks_50 (w_X3_lay (d - 1) _ _ _ (by omega) hW  ha1 ) (by omega) (Nat.zero_le _) (Nat.zero_le _) (Nat.le_of_ble_eq_true rfl) (fun r50 V50 h50 => ?_)
            obtain ⟨hW, hx50, hr50⟩ := h50
            have he := he.trans (hx50.sub (jsub_of rfl))
            have ha0 := ha0.mono hx50.1
            have ha1 := ha1.mono hx50.1
            have hO41 := hx50.2 _ _ hO41 (jnot_of rfl)
            have hK41 := hK41.mono hx50.1
            obtain ⟨y50, rfl, hl50, hh50⟩ := hr50
            refine J_if_eq (tgt := 78) dX5_markWalks_53 (by decide) (fun c53 => ?_) (fun c53 => ?_)
            · refine J_iinc dX5_markWalks_78 rfl j_inc1 rfl (by decide) ?_
              refine J_goto (tgt := 38) dX5_markWalks_81 (by decide) ?_
              refine J.mask [true, true, true, true, true] ?_
              exact ih38 _ _ hW he ha0 ha1  (jdec_up (Int32.not_le.mp c44) (by assumption))
            · refine J_aload_n dX5_markWalks_56 rfl ?_
              refine J_aload_n dX5_markWalks_57 rfl ?_
              refine J_iload_n dX5_markWalks_58 rfl ?_
              refine J_iconst (v := 1) dX5_markWalks_59 (by decide) ?_
              refine J_iadd dX5_markWalks_60 ?_
              refine J_iload_n dX5_markWalks_61 rfl ?_
              refine J_aload_n dX5_markWalks_62 rfl ?_
              refine J_get jf_X5_40 dX5_markWalks_63 hO41 hF41 ?_
              refine J_imul dX5_markWalks_66 ?_
              refine J_iload dX5_markWalks_67 rfl ?_
              refine J_iadd dX5_markWalks_69 ?_
              refine J_callS4 moX5_markWalks jw_ml_X5_56 jw_st_X5_markWalks dX5_markWalks_70 (IH (d - 1) _ _ _ _ _ (by omega) hW ha0 ha1 (by have h9 := j_add1 (x := x2) (by omega); omega) (by have h9 := j_add1 (x := x2) (by omega); have h8 := jlt.mp c11; have h7 : (6 : Int32).toInt = 6 := rfl; omega) (by have h9 := j_add1 (x := x2) (by omega); have h8 := jlt.mp c11; have h7 : (6 : Int32).toInt = 6 := rfl; omega)) (by omega) (Nat.zero_le _) (Nat.zero_le _) (Nat.le_of_ble_eq_true rfl) (fun r70 V70 h70 => ?_)
              obtain ⟨hW, hx70, hr70⟩ := h70
              have he := he.trans (hx70.sub (jsub_of rfl))
              have ha0 := ha0.mono hx70.1
              have ha1 := ha1.mono hx70.1
              have hO41 := hx70.2 _ _ hO41 (jnot_of rfl)
              have hK41 := hK41.mono hx70.1
              cases hr70
              refine J_aload_n dX5_markWalks_73 rfl ?_
              refine J_iconst (v := 1) dX5_markWalks_74 (by decide) ?_
              refine Jw_callV1 (q9 := (RX3, TX3, 7)) moX3_drop jw_ml_X5_76 jw_im_X3_drop jw_se_X3_drop ha1 rfl rfl dX5_markWalks_75 (w_X3_drop (d - 1) _ _ _ (by omega) hW  ha1 ) (by omega) (Nat.zero_le _) (Nat.zero_le _) (Nat.le_of_ble_eq_true rfl) (fun r75 V75 h75 => ?_)
              obtain ⟨hW, hx75, hr75⟩ := h75
              have he := he.trans (hx75.sub (jsub_of rfl))
              have ha0 := ha0.mono hx75.1
              have ha1 := ha1.mono hx75.1
              have hO41 := hx75.2 _ _ hO41 (jnot_of rfl)
              have hK41 := hK41.mono hx75.1
              cases hr75
              refine J_iinc dX5_markWalks_78 rfl j_inc1 rfl (by decide) ?_
              refine J_goto (tgt := 38) dX5_markWalks_81 (by decide) ?_
              refine J.mask [true, true, true, true, true] ?_
              exact ih38 _ _ hW he ha0 ha1  (jdec_up (Int32.not_le.mp c44) (by assumption))
      refine J.mask [true, true, true, true, true] ?_
      exact L38 _ _ _ hW he ha0 ha1  (Nat.lt_succ_self _)
    · refine J_iload_n dX5_markWalks_14 rfl ?_
      refine J_if_lt (tgt := 34) dX5_markWalks_15 (by decide) (fun c15 => ?_) (fun c15 => ?_)
      · exact J_ret (r := none) dX5_markWalks_34 ⟨rfl, rfl⟩ (⟨hW, he, rfl⟩)
      · refine J_iload_n dX5_markWalks_18 rfl ?_
        refine J_aload_n dX5_markWalks_19 rfl ?_
        obtain ⟨w20, hF20, b20, rfl, hb20⟩ := hK2.2 3 (.inr (some (.inl 3))) rfl
        refine J_get jf_X5_43 dX5_markWalks_20 hO2 hF20 ?_
        obtain ⟨n23, f23, hA23, hN23, hM23, hv23⟩ := WT_arrI (r := (-128, 127)) hW id rfl hb20
        refine J_alen (v := Int32.ofNat n23) dX5_markWalks_23 hA23 rfl rfl ?_
        refine J_icmp_ge (tgt := 34) dX5_markWalks_24 (by decide) (fun c24 => ?_) (fun c24 => ?_)
        · exact J_ret (r := none) dX5_markWalks_34 ⟨rfl, rfl⟩ (⟨hW, he, rfl⟩)
        · refine J_aload_n dX5_markWalks_27 rfl ?_
          refine J_get jf_X5_43 dX5_markWalks_28 hO2 hF20 ?_
          refine J_iload_n dX5_markWalks_31 rfl ?_
          refine J_iconst (v := 1) dX5_markWalks_32 (by decide) ?_
          refine Jw_bast hW id dX5_markWalks_33 hA23 rfl rfl (by first | exact vp_in_g (by assumption) (by assumption) (by assumption) | exact vp_in_g1 (by assumption) (by assumption) (by assumption) | exact vp_in_g2 (by assumption) (by assumption) (by assumption) | exact vp_in_g3 (by assumption) (by assumption) (by assumption) | exact vp_in_n (by omega) (by omega)) (by first | decide | assumption | omega) (by first | decide | assumption | omega) rfl (fun V33 hW hx33 hy33 => ?_)
          have he := he.trans (hx33.sub (jsub_of rfl))
          have ha0 := ha0.mono hx33.1
          have ha1 := ha1.mono hx33.1
          have hb20 := hb20.mono hx33.1
          have hO2 := hx33.2 _ _ hO2 (jnot_of rfl)
          have hK2 := hK2.mono hx33.1
          exact J_ret (r := none) dX5_markWalks_34 ⟨rfl, rfl⟩ (⟨hW, he, rfl⟩)
set_option maxRecDepth 100000 in
set_option maxHeartbeats 4000000 in
theorem w_X5_arriveAt {tS : jTS} (d : Nat) (V0 : jH) (a0 : Nat) (x1 : Int32)  (hd : 0 ≤ d) (hW : WT V0) (ha0 : jis V0 (.inr 3) a0)  : jTot tS mX5_arriveAt d [.ref a0, .int x1] V0 0 0 (jPost [.inr 3, .inl 3, .inl 10] V0 rV) := by
  refine jTot.of_J [some (.ref a0), some (.int x1)] moX5_arriveAt (Nat.le_of_ble_eq_true rfl) rfl ?_
  have he : jeff [.inr 3, .inl 3, .inl 10] V0 V0 := jeff.refl _ _
  refine J_iload_n dX5_arriveAt_0 rfl ?_
  refine J_if_lt (tgt := 42) dX5_arriveAt_1 (by decide) (fun c1 => ?_) (fun c1 => ?_)
  · exact J_ret (r := none) dX5_arriveAt_42 ⟨rfl, rfl⟩ (⟨hW, he, rfl⟩)
  · refine J_iload_n dX5_arriveAt_4 rfl ?_
    refine J_aload_n dX5_arriveAt_5 rfl ?_
    obtain ⟨fs6, hO6, hK6⟩ := WT_obj hW id ha0
    obtain ⟨w6, hF6, b6, rfl, hb6⟩ := hK6.2 3 (.inr (some (.inl 3))) rfl
    refine J_get jf_X5_43 dX5_arriveAt_6 hO6 hF6 ?_
    obtain ⟨n9, f9, hA9, hN9, hM9, hv9⟩ := WT_arrI (r := (-128, 127)) hW id rfl hb6
    refine J_alen (v := Int32.ofNat n9) dX5_arriveAt_9 hA9 rfl rfl ?_
    refine J_icmp_ge (tgt := 42) dX5_arriveAt_10 (by decide) (fun c10 => ?_) (fun c10 => ?_)
    · exact J_ret (r := none) dX5_arriveAt_42 ⟨rfl, rfl⟩ (⟨hW, he, rfl⟩)
    · refine J_aload_n dX5_arriveAt_13 rfl ?_
      refine J_get jf_X5_43 dX5_arriveAt_14 hO6 hF6 ?_
      refine J_iload_n dX5_arriveAt_17 rfl ?_
      refine Jw_bald dX5_arriveAt_18 hA9 rfl hv9 (by first | exact vp_in_g (by assumption) (by assumption) (by assumption) | exact vp_in_g1 (by assumption) (by assumption) (by assumption) | exact vp_in_g2 (by assumption) (by assumption) (by assumption) | exact vp_in_g3 (by assumption) (by assumption) (by assumption) | exact vp_in_n (by omega) (by omega)) (fun y18 hl18 hh18 => ?_)
      refine J_iconst (v := 1) dX5_arriveAt_19 (by decide) ?_
      refine J_icmp_ne (tgt := 42) dX5_arriveAt_20 (by decide) (fun c20 => ?_) (fun c20 => ?_)
      · exact J_ret (r := none) dX5_arriveAt_42 ⟨rfl, rfl⟩ (⟨hW, he, rfl⟩)
      · refine J_aload_n dX5_arriveAt_23 rfl ?_
        obtain ⟨w24, hF24, y24, rfl, hl24, hh24⟩ := hK6.2 6 (.inl (0, 2147483647)) rfl
        dsimp only at hl24 hh24
        refine J_get jf_X5_15 dX5_arriveAt_24 hO6 hF24 ?_
        refine J_if_lt (tgt := 42) dX5_arriveAt_27 (by decide) (fun c27 => ?_) (fun c27 => ?_)
        · exact J_ret (r := none) dX5_arriveAt_42 ⟨rfl, rfl⟩ (⟨hW, he, rfl⟩)
        · refine J_aload_n dX5_arriveAt_30 rfl ?_
          refine J_get jf_X5_15 dX5_arriveAt_31 hO6 hF24 ?_
          refine J_aload_n dX5_arriveAt_34 rfl ?_
          obtain ⟨w35, hF35, b35, rfl, hb35⟩ := hK6.2 4 (.inr (some (.inl 10))) rfl
          refine J_get jf_X5_47 dX5_arriveAt_35 hO6 hF35 ?_
          obtain ⟨n38, f38, hA38, hN38, hM38, hv38⟩ := WT_arrI (r := (-2147483648, 2147483647)) hW id rfl hb35
          refine J_alen (v := Int32.ofNat n38) dX5_arriveAt_38 hA38 rfl rfl ?_
          refine J_icmp_lt (tgt := 43) dX5_arriveAt_39 (by decide) (fun c39 => ?_) (fun c39 => ?_)
          · refine J_aload_n dX5_arriveAt_43 rfl ?_
            refine J_get jf_X5_43 dX5_arriveAt_44 hO6 hF6 ?_
            refine J_iload_n dX5_arriveAt_47 rfl ?_
            refine J_iconst (v := 2) dX5_arriveAt_48 (by decide) ?_
            refine Jw_bast hW id dX5_arriveAt_49 hA9 rfl rfl (by first | exact vp_in_g (by assumption) (by assumption) (by assumption) | exact vp_in_g1 (by assumption) (by assumption) (by assumption) | exact vp_in_g2 (by assumption) (by assumption) (by assumption) | exact vp_in_g3 (by assumption) (by assumption) (by assumption) | exact vp_in_n (by omega) (by omega)) (by first | decide | assumption | omega) (by first | decide | assumption | omega) rfl (fun V49 hW hx49 hy49 => ?_)
            have he := he.trans (hx49.sub (jsub_of rfl))
            have ha0 := ha0.mono hx49.1
            have hb6 := hb6.mono hx49.1
            have hb35 := hb35.mono hx49.1
            have hO6 := hx49.2 _ _ hO6 (jnot_of rfl)
            have hK6 := hK6.mono hx49.1
            have hA38 := hx49.2 _ _ hA38 (jnot_of rfl)
            refine J_aload_n dX5_arriveAt_50 rfl ?_
            refine J_get jf_X5_47 dX5_arriveAt_51 hO6 hF35 ?_
            refine J_aload_n dX5_arriveAt_54 rfl ?_
            refine J_get jf_X5_15 dX5_arriveAt_55 hO6 hF24 ?_
            refine J_iload_n dX5_arriveAt_58 rfl ?_
            refine Jw_iast hW id dX5_arriveAt_59 hA38 rfl rfl (by first | exact vp_in_g (by assumption) (by assumption) (by assumption) | exact vp_in_g1 (by assumption) (by assumption) (by assumption) | exact vp_in_g2 (by assumption) (by assumption) (by assumption) | exact vp_in_g3 (by assumption) (by assumption) (by assumption) | exact vp_in_n (by omega) (by omega)) (j_rng _).1 (j_rng _).2 (fun V59 hW hx59 hy59 => ?_)
            have he := he.trans (hx59.sub (jsub_of rfl))
            have ha0 := ha0.mono hx59.1
            have hb6 := hb6.mono hx59.1
            have hb35 := hb35.mono hx59.1
            have hO6 := hx59.2 _ _ hO6 (jnot_of rfl)
            have hK6 := hK6.mono hx59.1
            refine J_aload_n dX5_arriveAt_60 rfl ?_
            refine J_dup dX5_arriveAt_61 rfl ?_
            refine J_get jf_X5_15 dX5_arriveAt_62 hO6 hF24 ?_
            refine J_iconst (v := 1) dX5_arriveAt_65 (by decide) ?_
            refine J_iadd dX5_arriveAt_66 ?_
            refine Jw_putI hW id ha0 rfl jf_X5_15 jt_X5_6 dX5_arriveAt_67 (by have h9 := jm_up c39; omega) (j_rng _).2 rfl rfl (fun V67 hW hx67 => ?_)
            have he := he.trans (hx67.sub (jsub_of rfl))
            have ha0 := ha0.mono hx67.1
            exact J_ret (r := none) dX5_arriveAt_70 ⟨rfl, rfl⟩ (⟨hW, he, rfl⟩)
          · exact J_ret (r := none) dX5_arriveAt_42 ⟨rfl, rfl⟩ (⟨hW, he, rfl⟩)
set_option maxRecDepth 100000 in
set_option maxHeartbeats 4000000 in
theorem w_X5_takeApart {tS : jTS} (d : Nat) (V0 : jH) (a0 : Nat) (x1 : Int32)  (hd : 1 ≤ d) (hW : WT V0) (ha0 : jis V0 (.inr 3) a0)  : jTot tS mX5_takeApart d [.ref a0, .int x1] V0 0 0 (jPost [.inl 11] V0 rV) := by
  refine jTot.of_J [some (.ref a0), some (.int x1), none, none] moX5_takeApart (Nat.le_of_ble_eq_true rfl) rfl ?_
  have he : jeff [.inl 11] V0 V0 := jeff.refl _ _
  refine J_aload_n dX5_takeApart_0 rfl ?_
  obtain ⟨fs1, hO1, hK1⟩ := WT_obj hW id ha0
  obtain ⟨w1, hF1, y1, rfl, hl1, hh1⟩ := hK1.2 2 (.inl ((-2147483648), 2147483647)) rfl
  dsimp only at hl1 hh1
  refine J_get jf_X5_40 dX5_takeApart_1 hO1 hF1 ?_
  refine J_iconst (v := 1) dX5_takeApart_4 (by decide) ?_
  refine J_icmp_ge (tgt := 9) dX5_takeApart_5 (by decide) (fun c5 => ?_) (fun c5 => ?_)
  · refine J_iload_n dX5_takeApart_9 rfl ?_
    refine J_istore_n dX5_takeApart_10 rfl (by decide) ?_
    refine J_aload_n dX5_takeApart_11 rfl ?_
    obtain ⟨w12, hF12, y12, rfl, hl12, hh12⟩ := hK1.2 1 (.inl (0, 6)) rfl
    dsimp only at hl12 hh12
    refine J_get jf_X5_31 dX5_takeApart_12 hO1 hF12 ?_
    refine J_iconst (v := 1) dX5_takeApart_15 (by decide) ?_
    refine J_isub dX5_takeApart_16 ?_
    refine J_istore_n dX5_takeApart_17 rfl (by decide) ?_
    have L18 : ∀ (N : Nat) (V : jH) (i2 : Int32) (i3 : Int32), WT V → jeff [.inl 11] V0 V → jis V (.inr 3) a0 → (V a0 = some (.inr (3, fs1))) → (jokO V (jFs 3) fs1) → (i3.toInt + 2147483648).toNat < N → J tS mX5_takeApart d 18 [some (.ref a0), some (.int x1), some (.int i2), some (.int i3)] [] V 0 0 (jPost [.inl 11] V0 rV) := by
      intro N
      induction N with
      | zero => intro V i2 i3 hW he ha0 hO1 hK1 hm; exact absurd hm (Nat.not_lt_zero _)
      | succ N ih =>
        intro V i2 i3 hW he ha0 hO1 hK1 hm
        have ih18 := ih
        refine J_iload_n dX5_takeApart_18 rfl ?_
        refine J_if_lt (tgt := 49) dX5_takeApart_19 (by decide) (fun c19 => ?_) (fun c19 => ?_)
        · exact J_ret (r := none) dX5_takeApart_49 ⟨rfl, rfl⟩ (⟨hW, he, rfl⟩)
        · refine J_aload_n dX5_takeApart_22 rfl ?_
          obtain ⟨w23, hF23, b23, rfl, hb23⟩ := hK1.2 5 (.inr (some (.inl 11))) rfl
          refine J_get jf_X5_9 dX5_takeApart_23 hO1 hF23 ?_
          refine J_iload_n dX5_takeApart_26 rfl ?_
          refine J_iload_n dX5_takeApart_27 rfl ?_
          refine J_aload_n dX5_takeApart_28 rfl ?_
          refine J_get jf_X5_40 dX5_takeApart_29 hO1 hF1 ?_
          refine J_irem dX5_takeApart_32 (jne0 c5) ?_
          refine J_callSN3 moX6_put (host := "WalkGrounds") (List.mem_of_getElem? (i := 6) rfl) jw_st_X6_put dX5_takeApart_33 (w_X6_put (d - 1) _ _ _ _ hW hb23 rfl rfl) (by omega) (Nat.zero_le _) (Nat.zero_le _) (Nat.le_of_ble_eq_true rfl) (fun r33 V33 h33 => ?_)
          obtain ⟨hW, hx33, hr33⟩ := h33
          have he := he.trans (hx33.sub (jsub_of rfl))
          have ha0 := ha0.mono hx33.1
          have hb23 := hb23.mono hx33.1
          have hO1 := hx33.2 _ _ hO1 (jnot_of rfl)
          have hK1 := hK1.mono hx33.1
          cases hr33
          refine J_iload_n dX5_takeApart_36 rfl ?_
          refine J_aload_n dX5_takeApart_37 rfl ?_
          refine J_get jf_X5_40 dX5_takeApart_38 hO1 hF1 ?_
          refine J_idiv dX5_takeApart_41 (jne0 c5) ?_
          refine J_istore_n dX5_takeApart_42 rfl (by decide) ?_
          refine J_iinc dX5_takeApart_43 rfl j_incm1 rfl (by decide) ?_
          refine J_goto (tgt := 18) dX5_takeApart_46 (by decide) ?_
          refine J.mask [true, true, true, true] ?_
          exact ih18 _ _ _ hW he ha0 hO1 hK1 (jdec_dn c19 (by assumption))
    refine J.mask [true, true, true, true] ?_
    exact L18 _ _ _ _ hW he ha0 hO1 hK1 (Nat.lt_succ_self _)
  · exact J_ret (r := none) dX5_takeApart_8 ⟨rfl, rfl⟩ (⟨hW, he, rfl⟩)
set_option maxRecDepth 100000 in
set_option maxHeartbeats 4000000 in
theorem w_X5_numberTurned {tS : jTS} (d : Nat) (V0 : jH) (a0 : Nat) (x1 : Int32) (x2 : Int32)  (hd : 2 ≤ d) (hW : WT V0) (ha0 : jis V0 (.inr 3) a0)  : jTot tS mX5_numberTurned d [.ref a0, .int x1, .int x2] V0 0 0 (fun r V => rN r V ∧ V = V0) := by
  refine jTot.of_J [some (.ref a0), some (.int x1), some (.int x2), none, none, none] moX5_numberTurned (Nat.le_of_ble_eq_true rfl) rfl ?_
  have he : jeff [] V0 V0 := jeff.refl _ _
  refine J_iconst (v := 0) dX5_numberTurned_0 (by decide) ?_
  refine J_istore_n dX5_numberTurned_1 rfl (by decide) ?_
  refine J_iconst (v := 0) dX5_numberTurned_2 (by decide) ?_
  refine J_istore dX5_numberTurned_3 rfl (by decide) ?_
  have L5 : ∀ (N : Nat) (i3 : Int32) (i4 : Int32), WT V0 → jeff [] V0 V0 → jis V0 (.inr 3) a0 → (2147483648 - i4.toInt).toNat < N → J tS mX5_numberTurned d 5 [some (.ref a0), some (.int x1), some (.int x2), some (.int i3), some (.int i4), none] [] V0 0 0 (fun r V => rN r V ∧ V = V0) := by
    intro N
    induction N with
    | zero => intro i3 i4 hW he ha0  hm; exact absurd hm (Nat.not_lt_zero _)
    | succ N ih =>
      intro i3 i4 hW he ha0  hm
      have ih5 := ih
      refine J_iload dX5_numberTurned_5 rfl ?_
      refine J_aload_n dX5_numberTurned_7 rfl ?_
      obtain ⟨fs8, hO8, hK8⟩ := WT_obj hW id ha0
      obtain ⟨w8, hF8, y8, rfl, hl8, hh8⟩ := hK8.2 1 (.inl (0, 6)) rfl
      dsimp only at hl8 hh8
      refine J_get jf_X5_31 dX5_numberTurned_8 hO8 hF8 ?_
      refine J_icmp_ge (tgt := 60) dX5_numberTurned_11 (by decide) (fun c11 => ?_) (fun c11 => ?_)
      · refine J_iload_n dX5_numberTurned_60 rfl ?_
        exact J_ret (r := some (.int _)) dX5_numberTurned_61 ⟨rfl, _, rfl, rfl⟩ (⟨rN_of _, rfl⟩)
      · refine J_aload_n dX5_numberTurned_14 rfl ?_
        obtain ⟨w15, hF15, b15, rfl, hb15⟩ := hK8.2 5 (.inr (some (.inl 11))) rfl
        refine J_get jf_X5_9 dX5_numberTurned_15 hO8 hF15 ?_
        refine J_iload dX5_numberTurned_18 rfl ?_
        refine J_callSN2 moX6_cell (host := "WalkGrounds") (List.mem_of_getElem? (i := 7) rfl) jw_st_X6_cell dX5_numberTurned_20 (w_X6_cell (d - 1) _ _ _ hW hb15 rfl rfl) (by omega) (Nat.zero_le _) (Nat.zero_le _) (Nat.le_of_ble_eq_true rfl) (fun r20 V20 h20 => ?_)
        obtain ⟨⟨y20, rfl, hl20, hh20⟩, hE20⟩ := h20
        have hE20 := hE20.symm
        subst hE20
        refine J_istore dX5_numberTurned_23 rfl (by decide) ?_
        refine J_iload_n dX5_numberTurned_25 rfl ?_
        refine J_aload_n dX5_numberTurned_26 rfl ?_
        obtain ⟨w27, hF27, y27, rfl, hl27, hh27⟩ := hK8.2 2 (.inl ((-2147483648), 2147483647)) rfl
        dsimp only at hl27 hh27
        refine J_get jf_X5_40 dX5_numberTurned_27 hO8 hF27 ?_
        refine J_imul dX5_numberTurned_30 ?_
        refine J_iload dX5_numberTurned_31 rfl ?_
        refine J_iload_n dX5_numberTurned_33 rfl ?_
        refine J_icmp_ge (tgt := 42) dX5_numberTurned_34 (by decide) (fun c34 => ?_) (fun c34 => ?_)
        · refine J_aload_n dX5_numberTurned_42 rfl ?_
          obtain ⟨w43, hF43, y43, rfl, hl43, hh43⟩ := hK8.2 0 (.inl ((-2147483648), 2147483647)) rfl
          dsimp only at hl43 hh43
          refine J_get jf_X5_19 dX5_numberTurned_43 hO8 hF43 ?_
          refine J_iload_n dX5_numberTurned_46 rfl ?_
          refine J_iload dX5_numberTurned_47 rfl ?_
          refine J_callS3 moX0_turned jw_ml_X5_87 jw_st_X0_turned dX5_numberTurned_49 (w_X0_turned (d - 1) _ _ _ _ (by omega)    ) (by omega) (Nat.zero_le _) (Nat.zero_le _) (Nat.le_of_ble_eq_true rfl) (fun r49 V49 h49 => ?_)
          obtain ⟨⟨y49, rfl, hl49, hh49⟩, hE49⟩ := h49
          have hE49 := hE49.symm
          subst hE49
          refine J_iadd dX5_numberTurned_52 ?_
          refine J_istore_n dX5_numberTurned_53 rfl (by decide) ?_
          refine J_iinc dX5_numberTurned_54 rfl j_inc1 rfl (by decide) ?_
          refine J_goto (tgt := 5) dX5_numberTurned_57 (by decide) ?_
          refine J.mask [true, true, true, true, true, false] ?_
          exact ih5  _ _ hW he ha0  (jdec_up (Int32.not_le.mp c11) (by assumption))
        · refine J_iload dX5_numberTurned_37 rfl ?_
          refine J_goto (tgt := 52) dX5_numberTurned_39 (by decide) ?_
          refine J_iadd dX5_numberTurned_52 ?_
          refine J_istore_n dX5_numberTurned_53 rfl (by decide) ?_
          refine J_iinc dX5_numberTurned_54 rfl j_inc1 rfl (by decide) ?_
          refine J_goto (tgt := 5) dX5_numberTurned_57 (by decide) ?_
          refine J.mask [true, true, true, true, true, false] ?_
          exact ih5  _ _ hW he ha0  (jdec_up (Int32.not_le.mp c11) (by assumption))
  refine J.mask [true, true, true, true, true, false] ?_
  exact L5 _  _ _ hW he ha0  (Nat.lt_succ_self _)
set_option maxRecDepth 100000 in
set_option maxHeartbeats 4000000 in
theorem w_X5_countReached {tS : jTS} (d : Nat) (V0 : jH) (a0 : Nat) (a1 : Nat)  (hd : 13 ≤ d) (hW : WT V0) (ha0 : jis V0 (.inr 3) a0) (ha1 : jis V0 (.inr 1) a1)  : jTot tS mX5_countReached d [.ref a0, .ref a1] V0 0 0 (jPost [.inr 3, .inr 1, .inl 6, .inl 3, .inl 10, .inl 11] V0 (rI 0 2147483647)) := by
  refine jTot.of_J [some (.ref a0), some (.ref a1), none, none, none] moX5_countReached (Nat.le_of_ble_eq_true rfl) rfl ?_
  have he : jeff [.inr 3, .inr 1, .inl 6, .inl 3, .inl 10, .inl 11] V0 V0 := jeff.refl _ _
  refine J_aload_n dX5_countReached_0 rfl ?_
  refine J_aload_n dX5_countReached_1 rfl ?_
  obtain ⟨fs2, hO2, hK2⟩ := WT_obj hW id ha0
  obtain ⟨w2, hF2, y2, rfl, hl2, hh2⟩ := hK2.2 0 (.inl ((-2147483648), 2147483647)) rfl
  dsimp only at hl2 hh2
  refine J_get jf_X5_19 dX5_countReached_2 hO2 hF2 ?_
  refine Jw_callV1 (q9 := (RX3, TX3, 7)) moX3_begin jw_ml_X5_50 jw_im_X3_begin jw_se_X3_begin ha1 rfl rfl dX5_countReached_5 (w_X3_begin (d - 1) _ _ _ (by omega) hW  ha1 ) (by omega) (Nat.zero_le _) (Nat.zero_le _) (Nat.le_of_ble_eq_true rfl) (fun r5 V5 h5 => ?_)
  obtain ⟨hW, hx5, hr5⟩ := h5
  have he := he.trans (hx5.sub (jsub_of rfl))
  have ha0 := ha0.mono hx5.1
  have ha1 := ha1.mono hx5.1
  have hO2 := hx5.2 _ _ hO2 (jnot_of rfl)
  have hK2 := hK2.mono hx5.1
  cases hr5
  refine J_aload_n dX5_countReached_8 rfl ?_
  refine J_aload_n dX5_countReached_9 rfl ?_
  refine J_iconst (v := 0) dX5_countReached_10 (by decide) ?_
  refine J_iconst (v := 0) dX5_countReached_11 (by decide) ?_
  refine J_callS4 moX5_markWalks jw_ml_X5_56 jw_st_X5_markWalks dX5_countReached_12 (w_X5_markWalks 8 (d - 1) _ _ _ _ _ (by omega) hW ha0 ha1 (by first | decide | assumption | omega) (by first | decide | assumption | omega) (by decide)) (by omega) (Nat.zero_le _) (Nat.zero_le _) (Nat.le_of_ble_eq_true rfl) (fun r12 V12 h12 => ?_)
  obtain ⟨hW, hx12, hr12⟩ := h12
  have he := he.trans (hx12.sub (jsub_of rfl))
  have ha0 := ha0.mono hx12.1
  have ha1 := ha1.mono hx12.1
  have hO2 := hx12.2 _ _ hO2 (jnot_of rfl)
  have hK2 := hK2.mono hx12.1
  cases hr12
  refine J_aload_n dX5_countReached_15 rfl ?_
  refine J_iconst (v := 0) dX5_countReached_16 (by decide) ?_
  refine Jw_callV1 (q9 := (RX5, TX5, 7)) moX5_arriveAt jw_ml_X5_60 jw_im_X5_arriveAt jw_se_X5_arriveAt ha0 rfl rfl dX5_countReached_17 (w_X5_arriveAt (d - 1) _ _ _ (by omega) hW  ha0 ) (by omega) (Nat.zero_le _) (Nat.zero_le _) (Nat.le_of_ble_eq_true rfl) (fun r17 V17 h17 => ?_)
  obtain ⟨hW, hx17, hr17⟩ := h17
  have he := he.trans (hx17.sub (jsub_of rfl))
  have ha0 := ha0.mono hx17.1
  have ha1 := ha1.mono hx17.1
  cases hr17
  refine J_iconst (v := 0) dX5_countReached_20 (by decide) ?_
  refine J_istore_n dX5_countReached_21 rfl (by decide) ?_
  have L22 : ∀ (N : Nat) (V : jH) (i2 : Int32), WT V → jeff [.inr 3, .inr 1, .inl 6, .inl 3, .inl 10, .inl 11] V0 V → jis V (.inr 3) a0 → jis V (.inr 1) a1 → (0 ≤ i2.toInt) → (2147483648 - i2.toInt).toNat < N → J tS mX5_countReached d 22 [some (.ref a0), some (.ref a1), some (.int i2), none, none] [] V 0 0 (jPost [.inr 3, .inr 1, .inl 6, .inl 3, .inl 10, .inl 11] V0 (rI 0 2147483647)) := by
    intro N
    induction N with
    | zero => intro V i2 hW he ha0 ha1 hi2 hm; exact absurd hm (Nat.not_lt_zero _)
    | succ N ih =>
      intro V i2 hW he ha0 ha1 hi2 hm
      have ih22 := ih
      refine J_iload_n dX5_countReached_22 rfl ?_
      refine J_aload_n dX5_countReached_23 rfl ?_
      obtain ⟨fs24, hO24, hK24⟩ := WT_obj hW id ha0
      obtain ⟨w24, hF24, y24, rfl, hl24, hh24⟩ := hK24.2 6 (.inl (0, 2147483647)) rfl
      dsimp only at hl24 hh24
      refine J_get jf_X5_15 dX5_countReached_24 hO24 hF24 ?_
      refine J_icmp_ge (tgt := 103) dX5_countReached_27 (by decide) (fun c27 => ?_) (fun c27 => ?_)
      · refine J_aload_n dX5_countReached_103 rfl ?_
        refine J_get jf_X5_15 dX5_countReached_104 hO24 hF24 ?_
        exact J_ret (r := some (.int _)) dX5_countReached_107 ⟨rfl, _, rfl, rfl⟩ (⟨hW, he, _, rfl, by first | decide | assumption | omega, by first | decide | assumption | omega⟩)
      · refine J_iload_n dX5_countReached_30 rfl ?_
        refine J_aload_n dX5_countReached_31 rfl ?_
        obtain ⟨w32, hF32, b32, rfl, hb32⟩ := hK24.2 4 (.inr (some (.inl 10))) rfl
        refine J_get jf_X5_47 dX5_countReached_32 hO24 hF32 ?_
        obtain ⟨n35, f35, hA35, hN35, hM35, hv35⟩ := WT_arrI (r := (-2147483648, 2147483647)) hW id rfl hb32
        refine J_alen (v := Int32.ofNat n35) dX5_countReached_35 hA35 rfl rfl ?_
        refine J_icmp_ge (tgt := 103) dX5_countReached_36 (by decide) (fun c36 => ?_) (fun c36 => ?_)
        · refine J_aload_n dX5_countReached_103 rfl ?_
          refine J_get jf_X5_15 dX5_countReached_104 hO24 hF24 ?_
          exact J_ret (r := some (.int _)) dX5_countReached_107 ⟨rfl, _, rfl, rfl⟩ (⟨hW, he, _, rfl, by first | decide | assumption | omega, by first | decide | assumption | omega⟩)
        · refine J_aload_n dX5_countReached_39 rfl ?_
          refine J_aload_n dX5_countReached_40 rfl ?_
          refine J_get jf_X5_47 dX5_countReached_41 hO24 hF32 ?_
          refine J_iload_n dX5_countReached_44 rfl ?_
          refine Jw_iald dX5_countReached_45 hA35 rfl hv35 (by first | exact vp_in_g (by assumption) (by assumption) (by assumption) | exact vp_in_g1 (by assumption) (by assumption) (by assumption) | exact vp_in_g2 (by assumption) (by assumption) (by assumption) | exact vp_in_g3 (by assumption) (by assumption) (by assumption) | exact vp_in_n (by omega) (by omega)) (fun y45 hl45 hh45 => ?_)
          refine Jw_callV1 (q9 := (RX5, TX5, 7)) moX5_takeApart jw_ml_X5_63 jw_im_X5_takeApart jw_se_X5_takeApart ha0 rfl rfl dX5_countReached_46 (w_X5_takeApart (d - 1) _ _ _ (by omega) hW  ha0 ) (by omega) (Nat.zero_le _) (Nat.zero_le _) (Nat.le_of_ble_eq_true rfl) (fun r46 V46 h46 => ?_)
          obtain ⟨hW, hx46, hr46⟩ := h46
          have he := he.trans (hx46.sub (jsub_of rfl))
          have ha0 := ha0.mono hx46.1
          have ha1 := ha1.mono hx46.1
          have hb32 := hb32.mono hx46.1
          have hO24 := hx46.2 _ _ hO24 (jnot_of rfl)
          have hK24 := hK24.mono hx46.1
          have hA35 := hx46.2 _ _ hA35 (jnot_of rfl)
          cases hr46
          refine J_iconst (v := 0) dX5_countReached_49 (by decide) ?_
          refine J_istore_n dX5_countReached_50 rfl (by decide) ?_
          have L51 : ∀ (N : Nat) (V : jH) (i3 : Int32), WT V → jeff [.inr 3, .inr 1, .inl 6, .inl 3, .inl 10, .inl 11] V0 V → jis V (.inr 3) a0 → jis V (.inr 1) a1 → (2147483648 - i3.toInt).toNat < N → J tS mX5_countReached d 51 [some (.ref a0), some (.ref a1), some (.int i2), some (.int i3), none] [] V 0 0 (jPost [.inr 3, .inr 1, .inl 6, .inl 3, .inl 10, .inl 11] V0 (rI 0 2147483647)) := by
            intro N
            induction N with
            | zero => intro V i3 hW he ha0 ha1  hm; exact absurd hm (Nat.not_lt_zero _)
            | succ N ih =>
              intro V i3 hW he ha0 ha1  hm
              have ih51 := ih
              refine J_iload_n dX5_countReached_51 rfl ?_
              refine J_aload_n dX5_countReached_52 rfl ?_
              obtain ⟨fs53, hO53, hK53⟩ := WT_obj hW id ha0
              obtain ⟨w53, hF53, y53, rfl, hl53, hh53⟩ := hK53.2 1 (.inl (0, 6)) rfl
              dsimp only at hl53 hh53
              refine J_get jf_X5_31 dX5_countReached_53 hO53 hF53 ?_
              refine J_icmp_ge (tgt := 97) dX5_countReached_56 (by decide) (fun c56 => ?_) (fun c56 => ?_)
              · refine J_iinc dX5_countReached_97 rfl j_inc1 rfl (by decide) ?_
                refine J_goto (tgt := 22) dX5_countReached_100 (by decide) ?_
                refine J.mask [true, true, true, false, false] ?_
                exact ih22 _ _ hW he ha0 ha1 (by have h8 := j_rng i2; have h9 := jm_up (Int32.not_le.mp c27); omega) (jdec_up (Int32.not_le.mp c27) (by assumption))
              · refine J_iconst (v := 0) dX5_countReached_59 (by decide) ?_
                refine J_istore dX5_countReached_60 rfl (by decide) ?_
                have L62 : ∀ (N : Nat) (V : jH) (i4 : Int32), WT V → jeff [.inr 3, .inr 1, .inl 6, .inl 3, .inl 10, .inl 11] V0 V → jis V (.inr 3) a0 → jis V (.inr 1) a1 → (2147483648 - i4.toInt).toNat < N → J tS mX5_countReached d 62 [some (.ref a0), some (.ref a1), some (.int i2), some (.int i3), some (.int i4)] [] V 0 0 (jPost [.inr 3, .inr 1, .inl 6, .inl 3, .inl 10, .inl 11] V0 (rI 0 2147483647)) := by
                  intro N
                  induction N with
                  | zero => intro V i4 hW he ha0 ha1  hm; exact absurd hm (Nat.not_lt_zero _)
                  | succ N ih =>
                    intro V i4 hW he ha0 ha1  hm
                    have ih62 := ih
                    refine J_iload dX5_countReached_62 rfl ?_
                    refine J_aload_n dX5_countReached_64 rfl ?_
                    obtain ⟨fs65, hO65, hK65⟩ := WT_obj hW id ha0
                    obtain ⟨w65, hF65, y65, rfl, hl65, hh65⟩ := hK65.2 0 (.inl ((-2147483648), 2147483647)) rfl
                    dsimp only at hl65 hh65
                    refine J_get jf_X5_19 dX5_countReached_65 hO65 hF65 ?_
                    refine J_callS1 moX0_turns jw_ml_X5_66 jw_st_X0_turns dX5_countReached_68 (w_X0_turns (d - 1) _ _ (by omega)    ) (by omega) (Nat.zero_le _) (Nat.zero_le _) (Nat.le_of_ble_eq_true rfl) (fun r68 V68 h68 => ?_)
                    obtain ⟨⟨y68, rfl, hl68, hh68⟩, hE68⟩ := h68
                    have hE68 := hE68.symm
                    subst hE68
                    refine J_icmp_ge (tgt := 91) dX5_countReached_71 (by decide) (fun c71 => ?_) (fun c71 => ?_)
                    · refine J_iinc dX5_countReached_91 rfl j_inc1 rfl (by decide) ?_
                      refine J_goto (tgt := 51) dX5_countReached_94 (by decide) ?_
                      refine J.mask [true, true, true, true, false] ?_
                      exact ih51 _ _ hW he ha0 ha1  (jdec_up (Int32.not_le.mp c56) (by assumption))
                    · refine J_aload_n dX5_countReached_74 rfl ?_
                      refine J_aload_n dX5_countReached_75 rfl ?_
                      refine J_iload_n dX5_countReached_76 rfl ?_
                      refine J_iload dX5_countReached_77 rfl ?_
                      refine Jw_callV2 (q9 := (RX5, TX5, 7)) moX5_numberTurned jw_ml_X5_69 jw_im_X5_numberTurned jw_se_X5_numberTurned ha0 rfl rfl dX5_countReached_79 (w_X5_numberTurned (d - 1) _ _ _ _ (by omega) hW  ha0 ) (by omega) (Nat.zero_le _) (Nat.zero_le _) (Nat.le_of_ble_eq_true rfl) (fun r79 V79 h79 => ?_)
                      obtain ⟨⟨y79, rfl, hl79, hh79⟩, hE79⟩ := h79
                      have hE79 := hE79.symm
                      subst hE79
                      refine Jw_callV1 (q9 := (RX5, TX5, 7)) moX5_arriveAt jw_ml_X5_60 jw_im_X5_arriveAt jw_se_X5_arriveAt ha0 rfl rfl dX5_countReached_82 (w_X5_arriveAt (d - 1) _ _ _ (by omega) hW  ha0 ) (by omega) (Nat.zero_le _) (Nat.zero_le _) (Nat.le_of_ble_eq_true rfl) (fun r82 V82 h82 => ?_)
                      obtain ⟨hW, hx82, hr82⟩ := h82
                      have he := he.trans (hx82.sub (jsub_of rfl))
                      have ha0 := ha0.mono hx82.1
                      have ha1 := ha1.mono hx82.1
                      cases hr82
                      refine J_iinc dX5_countReached_85 rfl j_inc1 rfl (by decide) ?_
                      refine J_goto (tgt := 62) dX5_countReached_88 (by decide) ?_
                      refine J.mask [true, true, true, true, true] ?_
                      exact ih62 _ _ hW he ha0 ha1  (jdec_up (Int32.not_le.mp c71) (by assumption))
                refine J.mask [true, true, true, true, true] ?_
                exact L62 _ _ _ hW he ha0 ha1  (Nat.lt_succ_self _)
          refine J.mask [true, true, true, true, false] ?_
          exact L51 _ _ _ hW he ha0 ha1  (Nat.lt_succ_self _)
  refine J.mask [true, true, true, false, false] ?_
  exact L22 _ _ _ hW he ha0 ha1 (by decide) (Nat.lt_succ_self _)
set_option maxRecDepth 100000 in
set_option maxHeartbeats 4000000 in
theorem w_X5_init {tS : jTS} (d : Nat) (V0 : jH) (q : Nat) (x1 : Int32) (x2 : Int32) (x3 : Int32)  (hd : 1 ≤ d) (hW : WTx (fun a => False ∨ a = q) V0) (hq : V0 q = some (.inr (3, [.int 0, .int 0, .int 0, .null, .null, .null, .int 0])))   : jTot tS mX5_init d [.ref q, .int x1, .int x2, .int x3] V0 3 20006 (fun r V => r = none ∧ WTx (fun _ => False) V ∧ jeff [.inr 3] V0 V ∧ jis V (.inr 3) q) := by
  refine jTot.of_J [some (.ref q), some (.int x1), some (.int x2), some (.int x3), none] moX5_init (Nat.le_of_ble_eq_true rfl) rfl ?_
  have he : jeff [.inr 3] V0 V0 := jeff.refl _ _
  refine J_aload_n dX5_init_0 rfl ?_
  refine J_objInit jw_ml_X5_3 jw_oi2 jw_oi3 dX5_init_1 (by omega) (Nat.le_of_ble_eq_true rfl) ?_
  refine J_aload_n dX5_init_4 rfl ?_
  refine J_bipush (v := 6) dX5_init_5 (by decide) ?_
  refine Jc_newa (atype := .int) (t := 11) (B := 6) (x := .inl (fun _ => 0)) jw_ac_int rfl (fun _ h => by cases h) (by decide) dX5_init_7 (by decide) (by decide) (by decide) (fun _ _ => rfl) (fun hN => jok_zI rfl (by decide) (by decide) (fun m h => by cases h <;> rfl) hN) (by decide) (by decide) hW (fun b7 V7 hn7 hb7 hk7 hW hx7 => ?_)
  have hz7 := he.1.none hn7
  have he := he.trans (hx7.sub (jsub_of rfl))
  have hq := hk7 _ _ hq
  refine Jc_putF jf_X5_9 jt_X5_5 rfl (fun _ h => by cases h; rfl) dX5_init_9 hq rfl rfl (Nat.le_of_ble_eq_true rfl) (fun _ h => by cases h) hW (fun V9 hq hW hx9 => ?_)
  have he := he.trans (hx9.sub (jsub_of rfl))
  have hb7 := hb7.mono hx9.1
  refine J_aload_n dX5_init_12 rfl ?_
  refine J_iconst (v := 0) dX5_init_13 (by decide) ?_
  refine Jc_put jf_X5_15 jt_X5_6 dX5_init_14 hq rfl rfl (Nat.le_of_ble_eq_true rfl) (fun _ h => by cases h) hW (fun V14 hq hW hx14 => ?_)
  have he := he.trans (hx14.sub (jsub_of rfl))
  have hb7 := hb7.mono hx14.1
  refine J_aload_n dX5_init_17 rfl ?_
  refine J_iload_n dX5_init_18 rfl ?_
  refine Jc_putF jf_X5_19 jt_X5_0 rfl (fun _ h => by cases h; rfl) dX5_init_19 hq rfl rfl (Nat.le_of_ble_eq_true rfl) (fun _ h => by cases h) hW (fun V19 hq hW hx19 => ?_)
  have he := he.trans (hx19.sub (jsub_of rfl))
  have hb7 := hb7.mono hx19.1
  refine J_aload_n dX5_init_22 rfl ?_
  refine J_iconst (v := 0) dX5_init_23 (by decide) ?_
  refine J_iload_n dX5_init_24 rfl ?_
  refine J_bipush (v := 6) dX5_init_25 (by decide) ?_
  refine J_mmin jw_ml_X5_22 dX5_init_27 (by omega) (Nat.le_of_ble_eq_true rfl) ?_
  refine J_mmax jw_ml_X5_28 dX5_init_30 (by omega) (Nat.le_of_ble_eq_true rfl) ?_
  refine Jc_putF jf_X5_31 jt_X5_1 rfl (fun _ h => by cases h; rfl) dX5_init_33 hq rfl rfl (Nat.le_of_ble_eq_true rfl) (fun _ h => by cases h) hW (fun V33 hq hW hx33 => ?_)
  have he := he.trans (hx33.sub (jsub_of rfl))
  have hb7 := hb7.mono hx33.1
  refine J_aload_n dX5_init_36 rfl ?_
  refine J_iload_n dX5_init_37 rfl ?_
  refine J_callS1 moX0_directions jw_ml_X5_34 jw_st_X0_directions dX5_init_38 (w_X0_directions (d - 1) _ _ (by omega)    ) (by omega) (Nat.zero_le _) (Nat.zero_le _) (Nat.le_of_ble_eq_true rfl) (fun r38 V38 h38 => ?_)
  obtain ⟨⟨y38, rfl, hl38, hh38⟩, hE38⟩ := h38
  have hE38 := hE38.symm
  subst hE38
  refine Jc_putF jf_X5_40 jt_X5_2 rfl (fun _ h => by cases h; rfl) dX5_init_41 hq rfl rfl (Nat.le_of_ble_eq_true rfl) (fun _ h => by cases h) hW (fun V41 hq hW hx41 => ?_)
  have he := he.trans (hx41.sub (jsub_of rfl))
  have hb7 := hb7.mono hx41.1
  refine J_iconst (v := 0) dX5_init_44 (by decide) ?_
  refine J_iload_n dX5_init_45 rfl ?_
  refine J_sipush (v := 10000) dX5_init_46 (by decide) ?_
  refine J_mmin jw_ml_X5_22 dX5_init_49 (by omega) (Nat.le_of_ble_eq_true rfl) ?_
  refine J_mmax jw_ml_X5_28 dX5_init_52 (by omega) (Nat.le_of_ble_eq_true rfl) ?_
  refine J_istore dX5_init_55 rfl (by decide) ?_
  refine J_aload_n dX5_init_57 rfl ?_
  refine J_iload dX5_init_58 rfl ?_
  refine Jc_newa (atype := .byte) (t := 3) (B := 10000) (x := .inl (fun _ => 0)) jw_ac_byte rfl (fun _ h => by cases h) (by decide) dX5_init_60 (jroom_lo _) (jroom_hi _) (by decide) (fun _ _ => rfl) (fun hN => jok_zI rfl (by decide) (by decide) (fun m h => by cases h <;> rfl) hN) (by decide) (by decide) hW (fun b60 V60 hn60 hb60 hk60 hW hx60 => ?_)
  have hz60 := he.1.none hn60
  have he := he.trans (hx60.sub (jsub_of rfl))
  have hb7 := hb7.mono hx60.1
  have hq := hk60 _ _ hq
  refine Jc_putF jf_X5_43 jt_X5_3 rfl (fun _ h => by cases h; rfl) dX5_init_62 hq rfl rfl (Nat.le_of_ble_eq_true rfl) (fun _ h => by cases h) hW (fun V62 hq hW hx62 => ?_)
  have he := he.trans (hx62.sub (jsub_of rfl))
  have hb7 := hb7.mono hx62.1
  have hb60 := hb60.mono hx62.1
  refine J_aload_n dX5_init_65 rfl ?_
  refine J_iload dX5_init_66 rfl ?_
  refine Jc_newa (atype := .int) (t := 10) (B := 10000) (x := .inl (fun _ => 0)) jw_ac_int rfl (fun _ h => by cases h) (by decide) dX5_init_68 (jroom_lo _) (jroom_hi _) (by decide) (fun _ _ => rfl) (fun hN => jok_zI rfl (by decide) (by decide) (fun m h => by cases h <;> rfl) hN) (by decide) (by decide) hW (fun b68 V68 hn68 hb68 hk68 hW hx68 => ?_)
  have hz68 := he.1.none hn68
  have he := he.trans (hx68.sub (jsub_of rfl))
  have hb7 := hb7.mono hx68.1
  have hb60 := hb60.mono hx68.1
  have hq := hk68 _ _ hq
  refine Jc_putF jf_X5_47 jt_X5_4 rfl (fun _ h => by cases h; rfl) dX5_init_70 hq rfl rfl (Nat.le_of_ble_eq_true rfl) (fun _ h => by cases h) hW (fun V70 hq hW hx70 => ?_)
  have he := he.trans (hx70.sub (jsub_of rfl))
  have hb7 := hb7.mono hx70.1
  have hb60 := hb60.mono hx70.1
  have hb68 := hb68.mono hx70.1
  have hls := jst_lo x2
  have hhs := jst_hi x2
  exact J_ret (r := none) dX5_init_73 ⟨rfl, rfl⟩ (⟨rfl, hW.fin hq (jokO_cons ⟨_, rfl, (j_rng _).1, (j_rng _).2⟩ (jokO_cons ⟨_, rfl, by first | decide | assumption | omega, by first | decide | assumption | omega⟩ (jokO_cons ⟨_, rfl, (j_rng _).1, (j_rng _).2⟩ (jokO_cons ⟨_, rfl, hb60⟩ (jokO_cons ⟨_, rfl, hb68⟩ (jokO_cons ⟨_, rfl, hb7⟩ (jokO_cons ⟨_, rfl, by first | decide | assumption | omega, by first | decide | assumption | omega⟩ (jokO_nil)))))))), he, ⟨_, hq, rfl⟩⟩)
