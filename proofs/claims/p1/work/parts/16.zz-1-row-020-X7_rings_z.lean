set_option maxRecDepth 100000 in
set_option maxHeartbeats 8000000 in
theorem w_X7_rings_z {tS : jTS} (d : Nat) (V0 : jH) (a0 : Nat) (x1 : Int32) (x2 : Int32) (hd : 3 ≤ d) (hW : WT V0) (ha0 : jis V0 (.inr 5) a0) (hct : jRM V0 a0) : jTot tS mX7_rings d [.ref a0, .int x1, .int x2] V0 0 0 (fun r V => (jPost [.inr 5, .inl 40, .inl 23, .inl 17, .inl 18, .inl 19, .inl 20, .inl 41, .inl 26, .inl 46, .inl 24, .inl 25] V0 (fun r _ => ∃ y : Int32, r = some (.int y) ∧ ((-2147483648) ≤ y.toInt) ∧ (y.toInt ≤ 2147483647) ∧ (((0 ≤ x1.toInt ∧ x1.toInt ≤ 3 ∧ 3 ≤ x2.toInt ∧ x2.toInt ≤ 20) ∧ ((jTT x1.toInt (x2.toInt - 1).toNat jL0 ≤ 600000 ∧ y = (jrq x1.toInt (x2.toInt - 1).toNat).2.2.1) ∨ (600000 < jTT x1.toInt (x2.toInt - 1).toNat jL0 ∧ y.toInt = -5))) ∨ (¬ (0 ≤ x1.toInt ∧ x1.toInt ≤ 3 ∧ 3 ≤ x2.toInt ∧ x2.toInt ≤ 20) ∧ y.toInt = -2)))) r V ∧ jRM V a0 ∧ jkc 5 [0, 23, 24, 26, 27, 28] V0 V) := by
  refine jTot.of_J [some (.ref a0), some (.int x1), some (.int x2)] moX7_rings (Nat.le_of_ble_eq_true rfl) rfl ?_
  have hrx1 := j_rng x1
  have hrx2 := j_rng x2
  have he : jeff [.inr 5, .inl 40, .inl 23, .inl 17, .inl 18, .inl 19, .inl 20, .inl 41, .inl 26, .inl 46, .inl 24, .inl 25] V0 V0 := jeff.refl _ _
  have hkp : jkc 5 [0, 23, 24, 26, 27, 28] V0 V0 := jkc.rf
  obtain ⟨kn, co, sq, rg, bg, se, KN, CO, SQ, RG, BG, SE, ⟨m1, m2, m3, m4, m5, m6⟩, ⟨k1, k2, k3, k4, k5, k6⟩, hsn0, hmo⟩ := id hct
  obtain ⟨ms, hM, g11⟩ := id m1
  have g12 := m2.get hM
  have g13 := m3.get hM
  have g14 := m4.get hM
  have g15 := m5.get hM
  have g16 := m6.get hM
  have hKm : jokO V0 (jFs 5) ms := hW _ _ id hM
  have hbm1 : jis V0 (.inl 40) kn := ⟨_, k1, rfl⟩
  have hbm2 : jis V0 (.inl 23) co := ⟨_, k2, rfl⟩
  have hbm3 : jis V0 (.inl 46) sq := ⟨_, k3, rfl⟩
  have hbm4 : jis V0 (.inl 24) rg := ⟨_, k4, rfl⟩
  have hbm5 : jis V0 (.inl 25) bg := ⟨_, k5, rfl⟩
  have hbm6 : jis V0 (.inl 41) se := ⟨_, k6, rfl⟩
  refine J_iload_n dX7_rings_0 rfl ?_
  refine J_callS1 moX7_isGround jw_ml_X7_184 jw_st_X7_isGround dX7_rings_1 (w_X7_isGround_y (d - 1) _ x1 (by omega)   ) (by omega) (Nat.zero_le _) (Nat.zero_le _) (Nat.le_of_ble_eq_true rfl) (fun r1 V1 h1 => ?_)
  obtain ⟨⟨y1, rfl, hl1, hh1, hP1_0⟩, hE1⟩ := h1
  have hE1 := hE1.symm
  subst hE1
  refine Jz_if_eq (tgt := 17) jEq.rf dX7_rings_4 (by decide) (fun c4 => ?_) (fun c4 => ?_)
  · refine Jz_bipush (-2) dX7_rings_17 (by decide) (fun y17 he17 => ?_)
    exact J_ret (r := some (.int _)) dX7_rings_19 ⟨rfl, _, rfl, rfl⟩ (⟨⟨hW, he, ⟨_, rfl, (j_rng _).1, (j_rng _).2, (Or.inr ⟨(by omega), he17.eq⟩)⟩⟩, hct, hkp⟩)
  · refine J_iload_n dX7_rings_7 rfl ?_
    refine Jz_iconst 3 dX7_rings_8 (by decide) (fun y8 he8 => ?_)
    refine Jz_bipush 20 dX7_rings_9 (by decide) (fun y9 he9 => ?_)
    refine J_callS3 moX7_in jw_ml_X7_105 jw_st_X7_in dX7_rings_11 (w_X7_in_y (d - 1) _ x2 y8 y9 (by omega)   ) (by omega) (Nat.zero_le _) (Nat.zero_le _) (Nat.le_of_ble_eq_true rfl) (fun r11 V11 h11 => ?_)
    obtain ⟨⟨y11, rfl, hl11, hh11, hP11_0⟩, hE11⟩ := h11
    have hE11 := hE11.symm
    subst hE11
    try simp only [he8.eq, he9.eq] at hP11_0
    refine Jz_if_ne (tgt := 20) jEq.rf dX7_rings_14 (by decide) (fun c14 => ?_) (fun c14 => ?_)
    · refine J_aload_n dX7_rings_20 rfl ?_
      refine J_iload_n dX7_rings_21 rfl ?_
      refine J_iload_n dX7_rings_22 rfl ?_
      refine Jz_iconst 1 dX7_rings_23 (by decide) (fun y23 he23 => ?_)
      refine Jz_isub jEq.rf he23 dX7_rings_24 (by omega) (by omega) (fun y24 he24 => ?_)
      have hig : ((x1.toInt.toNat : Nat) : Int) = x1.toInt := by omega
      have hix : 21 * x1.toInt.toNat + (x2.toInt - 1).toNat = (21 * x1.toInt + (x2.toInt - 1)).toNat := by omega
      have hmo0 : jmo x1.toInt (x2.toInt - 1).toNat KN CO SQ RG BG (21 * x1.toInt + (x2.toInt - 1)).toNat := by
          have q := hmo x1.toInt.toNat (x2.toInt - 1).toNat (by omega) (by omega)
          rw [hig, hix] at q
          exact q
      obtain ⟨w25p4, hF25p4, b25p4, rfl, hb25p4⟩ := hKm.2 4 (.inr (some (.inl 17))) rfl
      obtain ⟨w25p6, hF25p6, b25p6, rfl, hb25p6⟩ := hKm.2 6 (.inr (some (.inl 18))) rfl
      obtain ⟨w25p7, hF25p7, b25p7, rfl, hb25p7⟩ := hKm.2 7 (.inr (some (.inl 19))) rfl
      obtain ⟨w25p8, hF25p8, b25p8, rfl, hb25p8⟩ := hKm.2 8 (.inr (some (.inl 20))) rfl
      obtain ⟨w25p17, hF25p17, b25p17, rfl, hb25p17⟩ := hKm.2 17 (.inr (some (.inl 26))) rfl
      obtain ⟨n25q17, f25q17, hA25q17, hN25q17, hM25q17, hv25q17⟩ := WT_arrI (r := (-2147483648, 2147483647)) hW id rfl hb25p4
      obtain rfl := hM25q17 120 rfl
      clear hN25q17 hM25q17
      obtain ⟨n25q18, f25q18, hA25q18, hN25q18, hM25q18, hv25q18⟩ := WT_arrI (r := (-2147483648, 2147483647)) hW id rfl hb25p6
      obtain rfl := hM25q18 121 rfl
      clear hN25q18 hM25q18
      obtain ⟨n25q19, f25q19, hA25q19, hN25q19, hM25q19, hv25q19⟩ := WT_arrI (r := (-2147483648, 2147483647)) hW id rfl hb25p7
      obtain rfl := hM25q19 121 rfl
      clear hN25q19 hM25q19
      obtain ⟨n25q20, f25q20, hA25q20, hN25q20, hM25q20, hv25q20⟩ := WT_arrI (r := (-2147483648, 2147483647)) hW id rfl hb25p8
      obtain rfl := hM25q20 121 rfl
      clear hN25q20 hM25q20
      obtain ⟨n25q26, f25q26, hA25q26, hN25q26, hM25q26, hv25q26⟩ := WT_arrI (r := (-2147483648, 2147483647)) hW id rfl hb25p17
      obtain rfl := hM25q26 22 rfl
      clear hN25q26 hM25q26
      refine Jw_callV2 (q9 := (RX7, TX7, 34)) moX7_counts jw_ml_X7_187 jw_im_X7_counts jw_se_X7_counts ha0 rfl rfl dX7_rings_25 (w_X7_counts_z (d - 1) _ a0 x1 y24 b25p4 b25p6 b25p7 b25p8 kn co sq rg bg se b25p17 f25q17 f25q18 f25q19 f25q20 KN CO SQ RG BG SE f25q26 (by omega) hW  ha0 ⟨_, hM, hF25p4⟩ ⟨_, hM, hF25p6⟩ ⟨_, hM, hF25p7⟩ ⟨_, hM, hF25p8⟩ ⟨_, hM, g11⟩ ⟨_, hM, g12⟩ ⟨_, hM, g13⟩ ⟨_, hM, g14⟩ ⟨_, hM, g15⟩ ⟨_, hM, g16⟩ ⟨_, hM, hF25p17⟩ hA25q17 hA25q18 hA25q19 hA25q20 k1 k2 k3 k4 k5 k6 hA25q26 (by omega) (by omega) (by rw [he24.eq]; omega) (by rw [he24.eq]; omega) hsn0 (by rw [he24.eq]; exact hmo0)) (by omega) (Nat.zero_le _) (Nat.zero_le _) (Nat.le_of_ble_eq_true rfl) (fun r25 V25 h25 => ?_)
      obtain ⟨h25, hX25_0, hX25_1⟩ := h25
      obtain ⟨hW, hx25, hr25⟩ := h25
      have he := he.trans (hx25.sub (jsub_of rfl))
      have hkp := hkp.trans hX25_1
      have ha0 := ha0.mono hx25.1
      have hbm1 := hbm1.mono hx25.1
      have hbm2 := hbm2.mono hx25.1
      have hbm3 := hbm3.mono hx25.1
      have hbm4 := hbm4.mono hx25.1
      have hbm5 := hbm5.mono hx25.1
      have hbm6 := hbm6.mono hx25.1
      have hb25p4 := hb25p4.mono hx25.1
      have hb25p6 := hb25p6.mono hx25.1
      have hb25p7 := hb25p7.mono hx25.1
      have hb25p8 := hb25p8.mono hx25.1
      have hb25p17 := hb25p17.mono hx25.1
      obtain ⟨fs25a0, hOfs25a0, hRfs25a0⟩ := hx25.1.keep hM
      have hKfs25a0 : jokO _ (jFs 5) fs25a0 := hW _ _ id hOfs25a0
      have hFfs25a0_11 := hRfs25a0 _ _ g11
      have hFfs25a0_12 := hRfs25a0 _ _ g12
      have hFfs25a0_13 := hRfs25a0 _ _ g13
      have hFfs25a0_14 := hRfs25a0 _ _ g14
      have hFfs25a0_15 := hRfs25a0 _ _ g15
      have hFfs25a0_16 := hRfs25a0 _ _ g16
      have hFfs25a0_4 := hRfs25a0 _ _ hF25p4
      have hFfs25a0_6 := hRfs25a0 _ _ hF25p6
      have hFfs25a0_7 := hRfs25a0 _ _ hF25p7
      have hFfs25a0_8 := hRfs25a0 _ _ hF25p8
      have hFfs25a0_17 := hRfs25a0 _ _ hF25p17
      cases hr25
      obtain ⟨KN25, CO25, SQ25, RG25, BG25, SE25, b1, b2, b3, b4, b5, b6, hsn, hkn, hmk, hko, hot⟩ := hX25_0
      simp only [he24.eq] at hkn hmk hko hot
      have hct : jRM V25 a0 := jRM.upd (g := x1.toInt.toNat) (n := (x2.toInt - 1).toNat) (by omega) (by omega) m1 m2 m3 m4 m5 m6 he b1 b2 b3 b4 b5 b6 hsn (by rw [hix]; exact hkn) (by rw [hig, hix]; exact hmk) (by rw [hix]; exact hko) (by rw [hix]; exact hot) hmo
      obtain ⟨hN_KN25, hv_KN25⟩ := WT_rngI (r := (0, 1)) hW id rfl b1
      clear hN_KN25
      obtain ⟨hN_CO25, hv_CO25⟩ := WT_rngI (r := ((-2147483648), 2147483647)) hW id rfl b2
      clear hN_CO25
      obtain ⟨hN_RG25, hv_RG25⟩ := WT_rngI (r := ((-2147483648), 2147483647)) hW id rfl b4
      clear hN_RG25
      obtain ⟨hN_BG25, hv_BG25⟩ := WT_rngI (r := ((-2147483648), 2147483647)) hW id rfl b5
      clear hN_BG25
      obtain ⟨hN_SE25, hv_SE25⟩ := WT_rngI (r := (0, 1)) hW id rfl b6
      clear hN_SE25
      refine J_aload_n dX7_rings_28 rfl ?_
      refine J_get jf_X7_41 dX7_rings_29 hOfs25a0 hFfs25a0_12 ?_
      refine Jz_bipush 21 dX7_rings_32 (by decide) (fun y32 he32 => ?_)
      refine J_iload_n dX7_rings_34 rfl ?_
      refine Jz_imul he32 jEq.rf dX7_rings_35 (by omega) (by omega) (fun y35 he35 => ?_)
      refine J_iload_n dX7_rings_36 rfl ?_
      refine Jz_iadd he35 jEq.rf dX7_rings_37 (by omega) (by omega) (fun y37 he37 => ?_)
      refine Jz_iconst 1 dX7_rings_38 (by decide) (fun y38 he38 => ?_)
      refine Jz_isub he37 he38 dX7_rings_39 (by omega) (by omega) (fun y39 he39 => ?_)
      refine Jz_iald (r := ((-2147483648), 2147483647)) he39 dX7_rings_40 b2 rfl hv_CO25 (by omega) (by omega) (fun y40 hf40 hl40 hh40 => ?_)
      dsimp only at hl40 hh40
      clear hl40 hh40
      have e40 : CO25 (21 * x1.toInt + (x2.toInt - 1)).toNat = y40 := by rw [show (21 * x1.toInt + (x2.toInt - 1)).toNat = (21 * x1.toInt + x2.toInt - 1).toNat by omega, hf40]
      refine Jz_bipush (-5) dX7_rings_41 (by decide) (fun y41 he41 => ?_)
      refine Jz_icmp_ne (tgt := 51) jEq.rf he41 dX7_rings_43 (by decide) (fun c43 => ?_) (fun c43 => ?_)
      · refine J_aload_n dX7_rings_51 rfl ?_
        refine J_get jf_X7_48 dX7_rings_52 hOfs25a0 hFfs25a0_14 ?_
        refine Jz_bipush 21 dX7_rings_55 (by decide) (fun y55 he55 => ?_)
        refine J_iload_n dX7_rings_57 rfl ?_
        refine Jz_imul he55 jEq.rf dX7_rings_58 (by omega) (by omega) (fun y58 he58 => ?_)
        refine J_iload_n dX7_rings_59 rfl ?_
        refine Jz_iadd he58 jEq.rf dX7_rings_60 (by omega) (by omega) (fun y60 he60 => ?_)
        refine Jz_iconst 1 dX7_rings_61 (by decide) (fun y61 he61 => ?_)
        refine Jz_isub he60 he61 dX7_rings_62 (by omega) (by omega) (fun y62 he62 => ?_)
        refine Jz_iald (r := ((-2147483648), 2147483647)) he62 dX7_rings_63 b4 rfl hv_RG25 (by omega) (by omega) (fun y63 hf63 hl63 hh63 => ?_)
        dsimp only at hl63 hh63
        clear hl63 hh63
        have e63 : RG25 (21 * x1.toInt + (x2.toInt - 1)).toNat = y63 := by rw [show (21 * x1.toInt + (x2.toInt - 1)).toNat = (21 * x1.toInt + x2.toInt - 1).toNat by omega, hf63]
        exact J_ret (r := some (.int _)) dX7_rings_64 ⟨rfl, _, rfl, rfl⟩ (⟨⟨hW, he, ⟨_, rfl, (j_rng _).1, (j_rng _).2, (Or.inl ⟨(by omega), (hmk.co.elim (fun q => Or.inl ⟨q.1, e63.symm.trans q.2.2.2.2.1⟩) (fun q => absurd (show y40.toInt = -5 by rw [← e40]; exact q.2) (by omega)))⟩)⟩⟩, hct, hkp⟩)
      · refine Jz_bipush (-5) dX7_rings_46 (by decide) (fun y46 he46 => ?_)
        refine J_goto (tgt := 64) dX7_rings_48 (by decide) ?_
        exact J_ret (r := some (.int _)) dX7_rings_64 ⟨rfl, _, rfl, rfl⟩ (⟨⟨hW, he, ⟨_, rfl, (j_rng _).1, (j_rng _).2, (Or.inl ⟨(by omega), (hmk.co.elim (fun q => absurd q.2.1 (by rw [e40]; omega)) (fun q => Or.inr ⟨q.1, he46.eq⟩))⟩)⟩⟩, hct, hkp⟩)
    · refine Jz_bipush (-2) dX7_rings_17 (by decide) (fun y17 he17 => ?_)
      exact J_ret (r := some (.int _)) dX7_rings_19 ⟨rfl, _, rfl, rfl⟩ (⟨⟨hW, he, ⟨_, rfl, (j_rng _).1, (j_rng _).2, (Or.inr ⟨(by omega), he17.eq⟩)⟩⟩, hct, hkp⟩)
