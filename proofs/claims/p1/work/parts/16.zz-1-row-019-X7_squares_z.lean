set_option maxRecDepth 100000 in
set_option maxHeartbeats 8000000 in
theorem w_X7_squares_z {tS : jTS} (d : Nat) (V0 : jH) (a0 : Nat) (x1 : Int32) (x2 : Int32) (hd : 3 ≤ d) (hW : WT V0) (ha0 : jis V0 (.inr 5) a0) (hct : jRM V0 a0) : jTot tS mX7_squares d [.ref a0, .int x1, .int x2] V0 0 0 (fun r V => (jPost [.inr 5, .inl 40, .inl 23, .inl 17, .inl 18, .inl 19, .inl 20, .inl 41, .inl 26, .inl 46, .inl 24, .inl 25] V0 (fun r _ => ∃ y : Int64, r = some (.long y) ∧ (((0 ≤ x1.toInt ∧ x1.toInt ≤ 3 ∧ 0 ≤ x2.toInt ∧ x2.toInt ≤ 20) ∧ ((jTT x1.toInt x2.toInt.toNat jL0 ≤ 600000 ∧ y = (jrq x1.toInt x2.toInt.toNat).2.1) ∨ (600000 < jTT x1.toInt x2.toInt.toNat jL0 ∧ y = -5))) ∨ (¬ (0 ≤ x1.toInt ∧ x1.toInt ≤ 3 ∧ 0 ≤ x2.toInt ∧ x2.toInt ≤ 20) ∧ y = -2)))) r V ∧ jRM V a0 ∧ jkc 5 [0, 23, 24, 26, 27, 28] V0 V) := by
  refine jTot.of_J [some (.ref a0), some (.int x1), some (.int x2)] moX7_squares (Nat.le_of_ble_eq_true rfl) rfl ?_
  have hrx1 := j_rng x1
  have hrx2 := j_rng x2
  have he : jeff [.inr 5, .inl 40, .inl 23, .inl 17, .inl 18, .inl 19, .inl 20, .inl 41, .inl 26, .inl 46, .inl 24, .inl 25] V0 V0 := jeff.refl _ _
  have hkp : jkc 5 [0, 23, 24, 26, 27, 28] V0 V0 := jkc.rf
  obtain ⟨kn, co, sq, rg, bg, se, KN, CO, SQ, RG, BG, SE, ⟨m1, m2, m3, m4, m5, m6⟩, ⟨k1, k2, k3, k4, k5, k6⟩, hsn0, hmo⟩ := id hct
  obtain ⟨ms, hM, g11⟩ := id m1
  have g12 := m2.get hM
  have g13 := m3.get hM
  have g14 := m4.get hM
  have g15 := m5.get hM
  have g16 := m6.get hM
  have hKm : jokO V0 (jFs 5) ms := hW _ _ id hM
  have hbm1 : jis V0 (.inl 40) kn := ⟨_, k1, rfl⟩
  have hbm2 : jis V0 (.inl 23) co := ⟨_, k2, rfl⟩
  have hbm3 : jis V0 (.inl 46) sq := ⟨_, k3, rfl⟩
  have hbm4 : jis V0 (.inl 24) rg := ⟨_, k4, rfl⟩
  have hbm5 : jis V0 (.inl 25) bg := ⟨_, k5, rfl⟩
  have hbm6 : jis V0 (.inl 41) se := ⟨_, k6, rfl⟩
  refine J_iload_n dX7_squares_0 rfl ?_
  refine J_callS1 moX7_isGround jw_ml_X7_184 jw_st_X7_isGround dX7_squares_1 (w_X7_isGround_y (d - 1) _ x1 (by omega)   ) (by omega) (Nat.zero_le _) (Nat.zero_le _) (Nat.le_of_ble_eq_true rfl) (fun r1 V1 h1 => ?_)
  obtain ⟨⟨y1, rfl, hl1, hh1, hP1_0⟩, hE1⟩ := h1
  have hE1 := hE1.symm
  subst hE1
  refine Jz_if_eq (tgt := 17) jEq.rf dX7_squares_4 (by decide) (fun c4 => ?_) (fun c4 => ?_)
  · refine J_ldc2 jw_k_X7_191 dX7_squares_17 ?_
    exact J_ret (r := some (.long _)) dX7_squares_20 ⟨rfl, rfl⟩ (⟨⟨hW, he, ⟨_, rfl, (Or.inr ⟨(by omega), rfl⟩)⟩⟩, hct, hkp⟩)
  · refine J_iload_n dX7_squares_7 rfl ?_
    refine Jz_iconst 0 dX7_squares_8 (by decide) (fun y8 he8 => ?_)
    refine Jz_bipush 20 dX7_squares_9 (by decide) (fun y9 he9 => ?_)
    refine J_callS3 moX7_in jw_ml_X7_105 jw_st_X7_in dX7_squares_11 (w_X7_in_y (d - 1) _ x2 y8 y9 (by omega)   ) (by omega) (Nat.zero_le _) (Nat.zero_le _) (Nat.le_of_ble_eq_true rfl) (fun r11 V11 h11 => ?_)
    obtain ⟨⟨y11, rfl, hl11, hh11, hP11_0⟩, hE11⟩ := h11
    have hE11 := hE11.symm
    subst hE11
    try simp only [he8.eq, he9.eq] at hP11_0
    refine Jz_if_ne (tgt := 21) jEq.rf dX7_squares_14 (by decide) (fun c14 => ?_) (fun c14 => ?_)
    · refine J_aload_n dX7_squares_21 rfl ?_
      refine J_iload_n dX7_squares_22 rfl ?_
      refine J_iload_n dX7_squares_23 rfl ?_
      have hig : ((x1.toInt.toNat : Nat) : Int) = x1.toInt := by omega
      have hix : 21 * x1.toInt.toNat + x2.toInt.toNat = (21 * x1.toInt + x2.toInt).toNat := by omega
      have hmo0 : jmo x1.toInt x2.toInt.toNat KN CO SQ RG BG (21 * x1.toInt + x2.toInt).toNat := by
          have q := hmo x1.toInt.toNat x2.toInt.toNat (by omega) (by omega)
          rw [hig, hix] at q
          exact q
      obtain ⟨w24p4, hF24p4, b24p4, rfl, hb24p4⟩ := hKm.2 4 (.inr (some (.inl 17))) rfl
      obtain ⟨w24p6, hF24p6, b24p6, rfl, hb24p6⟩ := hKm.2 6 (.inr (some (.inl 18))) rfl
      obtain ⟨w24p7, hF24p7, b24p7, rfl, hb24p7⟩ := hKm.2 7 (.inr (some (.inl 19))) rfl
      obtain ⟨w24p8, hF24p8, b24p8, rfl, hb24p8⟩ := hKm.2 8 (.inr (some (.inl 20))) rfl
      obtain ⟨w24p17, hF24p17, b24p17, rfl, hb24p17⟩ := hKm.2 17 (.inr (some (.inl 26))) rfl
      obtain ⟨n24q17, f24q17, hA24q17, hN24q17, hM24q17, hv24q17⟩ := WT_arrI (r := (-2147483648, 2147483647)) hW id rfl hb24p4
      obtain rfl := hM24q17 120 rfl
      clear hN24q17 hM24q17
      obtain ⟨n24q18, f24q18, hA24q18, hN24q18, hM24q18, hv24q18⟩ := WT_arrI (r := (-2147483648, 2147483647)) hW id rfl hb24p6
      obtain rfl := hM24q18 121 rfl
      clear hN24q18 hM24q18
      obtain ⟨n24q19, f24q19, hA24q19, hN24q19, hM24q19, hv24q19⟩ := WT_arrI (r := (-2147483648, 2147483647)) hW id rfl hb24p7
      obtain rfl := hM24q19 121 rfl
      clear hN24q19 hM24q19
      obtain ⟨n24q20, f24q20, hA24q20, hN24q20, hM24q20, hv24q20⟩ := WT_arrI (r := (-2147483648, 2147483647)) hW id rfl hb24p8
      obtain rfl := hM24q20 121 rfl
      clear hN24q20 hM24q20
      obtain ⟨n24q26, f24q26, hA24q26, hN24q26, hM24q26, hv24q26⟩ := WT_arrI (r := (-2147483648, 2147483647)) hW id rfl hb24p17
      obtain rfl := hM24q26 22 rfl
      clear hN24q26 hM24q26
      refine Jw_callV2 (q9 := (RX7, TX7, 34)) moX7_counts jw_ml_X7_187 jw_im_X7_counts jw_se_X7_counts ha0 rfl rfl dX7_squares_24 (w_X7_counts_z (d - 1) _ a0 x1 x2 b24p4 b24p6 b24p7 b24p8 kn co sq rg bg se b24p17 f24q17 f24q18 f24q19 f24q20 KN CO SQ RG BG SE f24q26 (by omega) hW  ha0 ⟨_, hM, hF24p4⟩ ⟨_, hM, hF24p6⟩ ⟨_, hM, hF24p7⟩ ⟨_, hM, hF24p8⟩ ⟨_, hM, g11⟩ ⟨_, hM, g12⟩ ⟨_, hM, g13⟩ ⟨_, hM, g14⟩ ⟨_, hM, g15⟩ ⟨_, hM, g16⟩ ⟨_, hM, hF24p17⟩ hA24q17 hA24q18 hA24q19 hA24q20 k1 k2 k3 k4 k5 k6 hA24q26 (by omega) (by omega) (by omega) (by omega) hsn0 hmo0) (by omega) (Nat.zero_le _) (Nat.zero_le _) (Nat.le_of_ble_eq_true rfl) (fun r24 V24 h24 => ?_)
      obtain ⟨h24, hX24_0, hX24_1⟩ := h24
      obtain ⟨hW, hx24, hr24⟩ := h24
      have he := he.trans (hx24.sub (jsub_of rfl))
      have hkp := hkp.trans hX24_1
      have ha0 := ha0.mono hx24.1
      have hbm1 := hbm1.mono hx24.1
      have hbm2 := hbm2.mono hx24.1
      have hbm3 := hbm3.mono hx24.1
      have hbm4 := hbm4.mono hx24.1
      have hbm5 := hbm5.mono hx24.1
      have hbm6 := hbm6.mono hx24.1
      have hb24p4 := hb24p4.mono hx24.1
      have hb24p6 := hb24p6.mono hx24.1
      have hb24p7 := hb24p7.mono hx24.1
      have hb24p8 := hb24p8.mono hx24.1
      have hb24p17 := hb24p17.mono hx24.1
      obtain ⟨fs24a0, hOfs24a0, hRfs24a0⟩ := hx24.1.keep hM
      have hKfs24a0 : jokO _ (jFs 5) fs24a0 := hW _ _ id hOfs24a0
      have hFfs24a0_11 := hRfs24a0 _ _ g11
      have hFfs24a0_12 := hRfs24a0 _ _ g12
      have hFfs24a0_13 := hRfs24a0 _ _ g13
      have hFfs24a0_14 := hRfs24a0 _ _ g14
      have hFfs24a0_15 := hRfs24a0 _ _ g15
      have hFfs24a0_16 := hRfs24a0 _ _ g16
      have hFfs24a0_4 := hRfs24a0 _ _ hF24p4
      have hFfs24a0_6 := hRfs24a0 _ _ hF24p6
      have hFfs24a0_7 := hRfs24a0 _ _ hF24p7
      have hFfs24a0_8 := hRfs24a0 _ _ hF24p8
      have hFfs24a0_17 := hRfs24a0 _ _ hF24p17
      cases hr24
      obtain ⟨KN24, CO24, SQ24, RG24, BG24, SE24, b1, b2, b3, b4, b5, b6, hsn, hkn, hmk, hko, hot⟩ := hX24_0
      have hct : jRM V24 a0 := jRM.upd (g := x1.toInt.toNat) (n := x2.toInt.toNat) (by omega) (by omega) m1 m2 m3 m4 m5 m6 he b1 b2 b3 b4 b5 b6 hsn (by rw [hix]; exact hkn) (by rw [hig, hix]; exact hmk) (by rw [hix]; exact hko) (by rw [hix]; exact hot) hmo
      obtain ⟨hN_KN24, hv_KN24⟩ := WT_rngI (r := (0, 1)) hW id rfl b1
      clear hN_KN24
      obtain ⟨hN_CO24, hv_CO24⟩ := WT_rngI (r := ((-2147483648), 2147483647)) hW id rfl b2
      clear hN_CO24
      obtain ⟨hN_RG24, hv_RG24⟩ := WT_rngI (r := ((-2147483648), 2147483647)) hW id rfl b4
      clear hN_RG24
      obtain ⟨hN_BG24, hv_BG24⟩ := WT_rngI (r := ((-2147483648), 2147483647)) hW id rfl b5
      clear hN_BG24
      obtain ⟨hN_SE24, hv_SE24⟩ := WT_rngI (r := (0, 1)) hW id rfl b6
      clear hN_SE24
      refine J_aload_n dX7_squares_27 rfl ?_
      refine J_get jf_X7_41 dX7_squares_28 hOfs24a0 hFfs24a0_12 ?_
      refine Jz_bipush 21 dX7_squares_31 (by decide) (fun y31 he31 => ?_)
      refine J_iload_n dX7_squares_33 rfl ?_
      refine Jz_imul he31 jEq.rf dX7_squares_34 (by omega) (by omega) (fun y34 he34 => ?_)
      refine J_iload_n dX7_squares_35 rfl ?_
      refine Jz_iadd he34 jEq.rf dX7_squares_36 (by omega) (by omega) (fun y36 he36 => ?_)
      refine Jz_iald (r := ((-2147483648), 2147483647)) he36 dX7_squares_37 b2 rfl hv_CO24 (by omega) (by omega) (fun y37 hf37 hl37 hh37 => ?_)
      dsimp only at hl37 hh37
      clear hl37 hh37
      have e37 : CO24 (21 * x1.toInt + x2.toInt).toNat = y37 := by rw [hf37]
      refine Jz_bipush (-5) dX7_squares_38 (by decide) (fun y38 he38 => ?_)
      refine Jz_icmp_ne (tgt := 49) jEq.rf he38 dX7_squares_40 (by decide) (fun c40 => ?_) (fun c40 => ?_)
      · refine J_aload_n dX7_squares_49 rfl ?_
        refine J_get jf_X7_44 dX7_squares_50 hOfs24a0 hFfs24a0_13 ?_
        refine Jz_bipush 21 dX7_squares_53 (by decide) (fun y53 he53 => ?_)
        refine J_iload_n dX7_squares_55 rfl ?_
        refine Jz_imul he53 jEq.rf dX7_squares_56 (by omega) (by omega) (fun y56 he56 => ?_)
        refine J_iload_n dX7_squares_57 rfl ?_
        refine Jz_iadd he56 jEq.rf dX7_squares_58 (by omega) (by omega) (fun y58 he58 => ?_)
        refine Jz_laldx he58 dX7_squares_59 b3 rfl (by omega) (by omega) ?_
        exact J_ret (r := some (.long _)) dX7_squares_60 ⟨rfl, rfl⟩ (⟨⟨hW, he, ⟨_, rfl, (Or.inl ⟨(by omega), (hmk.co.elim (fun q => Or.inl ⟨q.1, q.2.2.2.1⟩) (fun q => absurd (show y37.toInt = -5 by rw [← e37]; exact q.2) (by omega)))⟩)⟩⟩, hct, hkp⟩)
      · refine J_ldc2 jw_k_X7_193 dX7_squares_43 ?_
        refine J_goto (tgt := 60) dX7_squares_46 (by decide) ?_
        exact J_ret (r := some (.long _)) dX7_squares_60 ⟨rfl, rfl⟩ (⟨⟨hW, he, ⟨_, rfl, (Or.inl ⟨(by omega), (hmk.co.elim (fun q => absurd q.2.1 (by rw [e37]; omega)) (fun q => Or.inr ⟨q.1, rfl⟩))⟩)⟩⟩, hct, hkp⟩)
    · refine J_ldc2 jw_k_X7_191 dX7_squares_17 ?_
      exact J_ret (r := some (.long _)) dX7_squares_20 ⟨rfl, rfl⟩ (⟨⟨hW, he, ⟨_, rfl, (Or.inr ⟨(by omega), rfl⟩)⟩⟩, hct, hkp⟩)
