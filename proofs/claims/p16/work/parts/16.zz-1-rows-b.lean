set_option maxRecDepth 100000 in
set_option maxHeartbeats 8000000 in
theorem w_X7_squares_z {tS : jTS} (d : Nat) (V0 : jH) (a0 : Nat) (x1 : Int32) (x2 : Int32) (hd : 3 ≤ d) (hW : WT V0) (ha0 : jis V0 (.inr 5) a0) (hct : jRM V0 a0) : jTot tS mX7_squares d [.ref a0, .int x1, .int x2] V0 0 0 (fun r V => (jPost [.inr 5, .inl 40, .inl 23, .inl 17, .inl 18, .inl 19, .inl 20, .inl 41, .inl 26, .inl 46, .inl 24, .inl 25] V0 (fun r _ => ∃ y : Int64, r = some (.long y) ∧ (((0 ≤ x1.toInt ∧ x1.toInt ≤ 3 ∧ 0 ≤ x2.toInt ∧ x2.toInt ≤ 20) ∧ ((jTT x1.toInt x2.toInt.toNat jL0 ≤ 600000 ∧ y = (jrq x1.toInt x2.toInt.toNat).2.1) ∨ (600000 < jTT x1.toInt x2.toInt.toNat jL0 ∧ y = -5))) ∨ (¬ (0 ≤ x1.toInt ∧ x1.toInt ≤ 3 ∧ 0 ≤ x2.toInt ∧ x2.toInt ≤ 20) ∧ y = -2)))) r V ∧ jRM V a0 ∧ jkc 5 [0, 23, 24] V0 V) := by
  refine jTot.of_J [some (.ref a0), some (.int x1), some (.int x2)] moX7_squares (Nat.le_of_ble_eq_true rfl) rfl ?_
  have hrx1 := j_rng x1
  have hrx2 := j_rng x2
  have he : jeff [.inr 5, .inl 40, .inl 23, .inl 17, .inl 18, .inl 19, .inl 20, .inl 41, .inl 26, .inl 46, .inl 24, .inl 25] V0 V0 := jeff.refl _ _
  have hkp : jkc 5 [0, 23, 24] V0 V0 := jkc.rf
  obtain ⟨kn, co, sq, rg, bg, se, KN, CO, SQ, RG, BG, SE, ⟨m1, m2, m3, m4, m5, m6⟩, ⟨k1, k2, k3, k4, k5, k6⟩, hsn0, hmo⟩ := id hct
  obtain ⟨ms, hM, g11⟩ := id m1
  have g12 := m2.get hM
  have g13 := m3.get hM
  have g14 := m4.get hM
  have g15 := m5.get hM
  have g16 := m6.get hM
  have hKm : jokO V0 (jFs 5) ms := hW _ _ id hM
  have hbm1 : jis V0 (.inl 40) kn := ⟨_, k1, rfl⟩
  have hbm2 : jis V0 (.inl 23) co := ⟨_, k2, rfl⟩
  have hbm3 : jis V0 (.inl 46) sq := ⟨_, k3, rfl⟩
  have hbm4 : jis V0 (.inl 24) rg := ⟨_, k4, rfl⟩
  have hbm5 : jis V0 (.inl 25) bg := ⟨_, k5, rfl⟩
  have hbm6 : jis V0 (.inl 41) se := ⟨_, k6, rfl⟩
  refine J_iload_n dX7_squares_0 rfl ?_
  refine J_callS1 moX7_isGround jw_ml_X7_184 jw_st_X7_isGround dX7_squares_1 (w_X7_isGround_y (d - 1) _ x1 (by omega)   ) (by omega) (Nat.zero_le _) (Nat.zero_le _) (Nat.le_of_ble_eq_true rfl) (fun r1 V1 h1 => ?_)
  obtain ⟨⟨y1, rfl, hl1, hh1, hP1_0⟩, hE1⟩ := h1
  have hE1 := hE1.symm
  subst hE1
  refine Jz_if_eq (tgt := 17) jEq.rf dX7_squares_4 (by decide) (fun c4 => ?_) (fun c4 => ?_)
  · refine J_ldc2 jw_k_X7_191 dX7_squares_17 ?_
    exact J_ret (r := some (.long _)) dX7_squares_20 ⟨rfl, rfl⟩ (⟨⟨hW, he, ⟨_, rfl, (Or.inr ⟨(by omega), rfl⟩)⟩⟩, hct, hkp⟩)
  · refine J_iload_n dX7_squares_7 rfl ?_
    refine Jz_iconst 0 dX7_squares_8 (by decide) (fun y8 he8 => ?_)
    refine Jz_bipush 20 dX7_squares_9 (by decide) (fun y9 he9 => ?_)
    refine J_callS3 moX7_in jw_ml_X7_105 jw_st_X7_in dX7_squares_11 (w_X7_in_y (d - 1) _ x2 y8 y9 (by omega)   ) (by omega) (Nat.zero_le _) (Nat.zero_le _) (Nat.le_of_ble_eq_true rfl) (fun r11 V11 h11 => ?_)
    obtain ⟨⟨y11, rfl, hl11, hh11, hP11_0⟩, hE11⟩ := h11
    have hE11 := hE11.symm
    subst hE11
    try simp only [he8.eq, he9.eq] at hP11_0
    refine Jz_if_ne (tgt := 21) jEq.rf dX7_squares_14 (by decide) (fun c14 => ?_) (fun c14 => ?_)
    · refine J_aload_n dX7_squares_21 rfl ?_
      refine J_iload_n dX7_squares_22 rfl ?_
      refine J_iload_n dX7_squares_23 rfl ?_
      have hig : ((x1.toInt.toNat : Nat) : Int) = x1.toInt := by omega
      have hix : 21 * x1.toInt.toNat + x2.toInt.toNat = (21 * x1.toInt + x2.toInt).toNat := by omega
      have hmo0 : jmo x1.toInt x2.toInt.toNat KN CO SQ RG BG (21 * x1.toInt + x2.toInt).toNat := by
          have q := hmo x1.toInt.toNat x2.toInt.toNat (by omega) (by omega)
          rw [hig, hix] at q
          exact q
      obtain ⟨w24p4, hF24p4, b24p4, rfl, hb24p4⟩ := hKm.2 4 (.inr (some (.inl 17))) rfl
      obtain ⟨w24p6, hF24p6, b24p6, rfl, hb24p6⟩ := hKm.2 6 (.inr (some (.inl 18))) rfl
      obtain ⟨w24p7, hF24p7, b24p7, rfl, hb24p7⟩ := hKm.2 7 (.inr (some (.inl 19))) rfl
      obtain ⟨w24p8, hF24p8, b24p8, rfl, hb24p8⟩ := hKm.2 8 (.inr (some (.inl 20))) rfl
      obtain ⟨w24p17, hF24p17, b24p17, rfl, hb24p17⟩ := hKm.2 17 (.inr (some (.inl 26))) rfl
      obtain ⟨n24q17, f24q17, hA24q17, hN24q17, hM24q17, hv24q17⟩ := WT_arrI (r := (-2147483648, 2147483647)) hW id rfl hb24p4
      obtain rfl := hM24q17 120 rfl
      clear hN24q17 hM24q17
      obtain ⟨n24q18, f24q18, hA24q18, hN24q18, hM24q18, hv24q18⟩ := WT_arrI (r := (-2147483648, 2147483647)) hW id rfl hb24p6
      obtain rfl := hM24q18 121 rfl
      clear hN24q18 hM24q18
      obtain ⟨n24q19, f24q19, hA24q19, hN24q19, hM24q19, hv24q19⟩ := WT_arrI (r := (-2147483648, 2147483647)) hW id rfl hb24p7
      obtain rfl := hM24q19 121 rfl
      clear hN24q19 hM24q19
      obtain ⟨n24q20, f24q20, hA24q20, hN24q20, hM24q20, hv24q20⟩ := WT_arrI (r := (-2147483648, 2147483647)) hW id rfl hb24p8
      obtain rfl := hM24q20 121 rfl
      clear hN24q20 hM24q20
      obtain ⟨n24q26, f24q26, hA24q26, hN24q26, hM24q26, hv24q26⟩ := WT_arrI (r := (-2147483648, 2147483647)) hW id rfl hb24p17
      obtain rfl := hM24q26 22 rfl
      clear hN24q26 hM24q26
      refine Jw_callV2 (q9 := (RX7, TX7, 34)) moX7_counts jw_ml_X7_187 jw_im_X7_counts jw_se_X7_counts ha0 rfl rfl dX7_squares_24 (w_X7_counts_z (d - 1) _ a0 x1 x2 b24p4 b24p6 b24p7 b24p8 kn co sq rg bg se b24p17 f24q17 f24q18 f24q19 f24q20 KN CO SQ RG BG SE f24q26 (by omega) hW  ha0 ⟨_, hM, hF24p4⟩ ⟨_, hM, hF24p6⟩ ⟨_, hM, hF24p7⟩ ⟨_, hM, hF24p8⟩ ⟨_, hM, g11⟩ ⟨_, hM, g12⟩ ⟨_, hM, g13⟩ ⟨_, hM, g14⟩ ⟨_, hM, g15⟩ ⟨_, hM, g16⟩ ⟨_, hM, hF24p17⟩ hA24q17 hA24q18 hA24q19 hA24q20 k1 k2 k3 k4 k5 k6 hA24q26 (by omega) (by omega) (by omega) (by omega) hsn0 hmo0) (by omega) (Nat.zero_le _) (Nat.zero_le _) (Nat.le_of_ble_eq_true rfl) (fun r24 V24 h24 => ?_)
      obtain ⟨h24, hX24_0, hX24_1⟩ := h24
      obtain ⟨hW, hx24, hr24⟩ := h24
      have he := he.trans (hx24.sub (jsub_of rfl))
      have hkp := hkp.trans hX24_1
      have ha0 := ha0.mono hx24.1
      have hbm1 := hbm1.mono hx24.1
      have hbm2 := hbm2.mono hx24.1
      have hbm3 := hbm3.mono hx24.1
      have hbm4 := hbm4.mono hx24.1
      have hbm5 := hbm5.mono hx24.1
      have hbm6 := hbm6.mono hx24.1
      have hb24p4 := hb24p4.mono hx24.1
      have hb24p6 := hb24p6.mono hx24.1
      have hb24p7 := hb24p7.mono hx24.1
      have hb24p8 := hb24p8.mono hx24.1
      have hb24p17 := hb24p17.mono hx24.1
      obtain ⟨fs24a0, hOfs24a0, hRfs24a0⟩ := hx24.1.keep hM
      have hKfs24a0 : jokO _ (jFs 5) fs24a0 := hW _ _ id hOfs24a0
      have hFfs24a0_11 := hRfs24a0 _ _ g11
      have hFfs24a0_12 := hRfs24a0 _ _ g12
      have hFfs24a0_13 := hRfs24a0 _ _ g13
      have hFfs24a0_14 := hRfs24a0 _ _ g14
      have hFfs24a0_15 := hRfs24a0 _ _ g15
      have hFfs24a0_16 := hRfs24a0 _ _ g16
      have hFfs24a0_4 := hRfs24a0 _ _ hF24p4
      have hFfs24a0_6 := hRfs24a0 _ _ hF24p6
      have hFfs24a0_7 := hRfs24a0 _ _ hF24p7
      have hFfs24a0_8 := hRfs24a0 _ _ hF24p8
      have hFfs24a0_17 := hRfs24a0 _ _ hF24p17
      cases hr24
      obtain ⟨KN24, CO24, SQ24, RG24, BG24, SE24, b1, b2, b3, b4, b5, b6, hsn, hkn, hmk, hko, hot⟩ := hX24_0
      have hct : jRM V24 a0 := jRM.upd (g := x1.toInt.toNat) (n := x2.toInt.toNat) (by omega) (by omega) m1 m2 m3 m4 m5 m6 he b1 b2 b3 b4 b5 b6 hsn (by rw [hix]; exact hkn) (by rw [hig, hix]; exact hmk) (by rw [hix]; exact hko) (by rw [hix]; exact hot) hmo
      obtain ⟨hN_KN24, hv_KN24⟩ := WT_rngI (r := (0, 1)) hW id rfl b1
      clear hN_KN24
      obtain ⟨hN_CO24, hv_CO24⟩ := WT_rngI (r := ((-2147483648), 2147483647)) hW id rfl b2
      clear hN_CO24
      obtain ⟨hN_RG24, hv_RG24⟩ := WT_rngI (r := ((-2147483648), 2147483647)) hW id rfl b4
      clear hN_RG24
      obtain ⟨hN_BG24, hv_BG24⟩ := WT_rngI (r := ((-2147483648), 2147483647)) hW id rfl b5
      clear hN_BG24
      obtain ⟨hN_SE24, hv_SE24⟩ := WT_rngI (r := (0, 1)) hW id rfl b6
      clear hN_SE24
      refine J_aload_n dX7_squares_27 rfl ?_
      refine J_get jf_X7_41 dX7_squares_28 hOfs24a0 hFfs24a0_12 ?_
      refine Jz_bipush 21 dX7_squares_31 (by decide) (fun y31 he31 => ?_)
      refine J_iload_n dX7_squares_33 rfl ?_
      refine Jz_imul he31 jEq.rf dX7_squares_34 (by omega) (by omega) (fun y34 he34 => ?_)
      refine J_iload_n dX7_squares_35 rfl ?_
      refine Jz_iadd he34 jEq.rf dX7_squares_36 (by omega) (by omega) (fun y36 he36 => ?_)
      refine Jz_iald (r := ((-2147483648), 2147483647)) he36 dX7_squares_37 b2 rfl hv_CO24 (by omega) (by omega) (fun y37 hf37 hl37 hh37 => ?_)
      dsimp only at hl37 hh37
      clear hl37 hh37
      have e37 : CO24 (21 * x1.toInt + x2.toInt).toNat = y37 := by rw [hf37]
      refine Jz_bipush (-5) dX7_squares_38 (by decide) (fun y38 he38 => ?_)
      refine Jz_icmp_ne (tgt := 49) jEq.rf he38 dX7_squares_40 (by decide) (fun c40 => ?_) (fun c40 => ?_)
      · refine J_aload_n dX7_squares_49 rfl ?_
        refine J_get jf_X7_44 dX7_squares_50 hOfs24a0 hFfs24a0_13 ?_
        refine Jz_bipush 21 dX7_squares_53 (by decide) (fun y53 he53 => ?_)
        refine J_iload_n dX7_squares_55 rfl ?_
        refine Jz_imul he53 jEq.rf dX7_squares_56 (by omega) (by omega) (fun y56 he56 => ?_)
        refine J_iload_n dX7_squares_57 rfl ?_
        refine Jz_iadd he56 jEq.rf dX7_squares_58 (by omega) (by omega) (fun y58 he58 => ?_)
        refine Jz_laldx he58 dX7_squares_59 b3 rfl (by omega) (by omega) ?_
        exact J_ret (r := some (.long _)) dX7_squares_60 ⟨rfl, rfl⟩ (⟨⟨hW, he, ⟨_, rfl, (Or.inl ⟨(by omega), (hmk.co.elim (fun q => Or.inl ⟨q.1, q.2.2.2.1⟩) (fun q => absurd (show y37.toInt = -5 by rw [← e37]; exact q.2) (by omega)))⟩)⟩⟩, hct, hkp⟩)
      · refine J_ldc2 jw_k_X7_193 dX7_squares_43 ?_
        refine J_goto (tgt := 60) dX7_squares_46 (by decide) ?_
        exact J_ret (r := some (.long _)) dX7_squares_60 ⟨rfl, rfl⟩ (⟨⟨hW, he, ⟨_, rfl, (Or.inl ⟨(by omega), (hmk.co.elim (fun q => absurd q.2.1 (by rw [e37]; omega)) (fun q => Or.inr ⟨q.1, rfl⟩))⟩)⟩⟩, hct, hkp⟩)
    · refine J_ldc2 jw_k_X7_191 dX7_squares_17 ?_
      exact J_ret (r := some (.long _)) dX7_squares_20 ⟨rfl, rfl⟩ (⟨⟨hW, he, ⟨_, rfl, (Or.inr ⟨(by omega), rfl⟩)⟩⟩, hct, hkp⟩)
set_option maxRecDepth 100000 in
set_option maxHeartbeats 8000000 in
theorem w_X7_rings_z {tS : jTS} (d : Nat) (V0 : jH) (a0 : Nat) (x1 : Int32) (x2 : Int32) (hd : 3 ≤ d) (hW : WT V0) (ha0 : jis V0 (.inr 5) a0) (hct : jRM V0 a0) : jTot tS mX7_rings d [.ref a0, .int x1, .int x2] V0 0 0 (fun r V => (jPost [.inr 5, .inl 40, .inl 23, .inl 17, .inl 18, .inl 19, .inl 20, .inl 41, .inl 26, .inl 46, .inl 24, .inl 25] V0 (fun r _ => ∃ y : Int32, r = some (.int y) ∧ ((-2147483648) ≤ y.toInt) ∧ (y.toInt ≤ 2147483647) ∧ (((0 ≤ x1.toInt ∧ x1.toInt ≤ 3 ∧ 3 ≤ x2.toInt ∧ x2.toInt ≤ 20) ∧ ((jTT x1.toInt (x2.toInt - 1).toNat jL0 ≤ 600000 ∧ y = (jrq x1.toInt (x2.toInt - 1).toNat).2.2.1) ∨ (600000 < jTT x1.toInt (x2.toInt - 1).toNat jL0 ∧ y.toInt = -5))) ∨ (¬ (0 ≤ x1.toInt ∧ x1.toInt ≤ 3 ∧ 3 ≤ x2.toInt ∧ x2.toInt ≤ 20) ∧ y.toInt = -2)))) r V ∧ jRM V a0 ∧ jkc 5 [0, 23, 24] V0 V) := by
  refine jTot.of_J [some (.ref a0), some (.int x1), some (.int x2)] moX7_rings (Nat.le_of_ble_eq_true rfl) rfl ?_
  have hrx1 := j_rng x1
  have hrx2 := j_rng x2
  have he : jeff [.inr 5, .inl 40, .inl 23, .inl 17, .inl 18, .inl 19, .inl 20, .inl 41, .inl 26, .inl 46, .inl 24, .inl 25] V0 V0 := jeff.refl _ _
  have hkp : jkc 5 [0, 23, 24] V0 V0 := jkc.rf
  obtain ⟨kn, co, sq, rg, bg, se, KN, CO, SQ, RG, BG, SE, ⟨m1, m2, m3, m4, m5, m6⟩, ⟨k1, k2, k3, k4, k5, k6⟩, hsn0, hmo⟩ := id hct
  obtain ⟨ms, hM, g11⟩ := id m1
  have g12 := m2.get hM
  have g13 := m3.get hM
  have g14 := m4.get hM
  have g15 := m5.get hM
  have g16 := m6.get hM
  have hKm : jokO V0 (jFs 5) ms := hW _ _ id hM
  have hbm1 : jis V0 (.inl 40) kn := ⟨_, k1, rfl⟩
  have hbm2 : jis V0 (.inl 23) co := ⟨_, k2, rfl⟩
  have hbm3 : jis V0 (.inl 46) sq := ⟨_, k3, rfl⟩
  have hbm4 : jis V0 (.inl 24) rg := ⟨_, k4, rfl⟩
  have hbm5 : jis V0 (.inl 25) bg := ⟨_, k5, rfl⟩
  have hbm6 : jis V0 (.inl 41) se := ⟨_, k6, rfl⟩
  refine J_iload_n dX7_rings_0 rfl ?_
  refine J_callS1 moX7_isGround jw_ml_X7_184 jw_st_X7_isGround dX7_rings_1 (w_X7_isGround_y (d - 1) _ x1 (by omega)   ) (by omega) (Nat.zero_le _) (Nat.zero_le _) (Nat.le_of_ble_eq_true rfl) (fun r1 V1 h1 => ?_)
  obtain ⟨⟨y1, rfl, hl1, hh1, hP1_0⟩, hE1⟩ := h1
  have hE1 := hE1.symm
  subst hE1
  refine Jz_if_eq (tgt := 17) jEq.rf dX7_rings_4 (by decide) (fun c4 => ?_) (fun c4 => ?_)
  · refine Jz_bipush (-2) dX7_rings_17 (by decide) (fun y17 he17 => ?_)
    exact J_ret (r := some (.int _)) dX7_rings_19 ⟨rfl, _, rfl, rfl⟩ (⟨⟨hW, he, ⟨_, rfl, (j_rng _).1, (j_rng _).2, (Or.inr ⟨(by omega), he17.eq⟩)⟩⟩, hct, hkp⟩)
  · refine J_iload_n dX7_rings_7 rfl ?_
    refine Jz_iconst 3 dX7_rings_8 (by decide) (fun y8 he8 => ?_)
    refine Jz_bipush 20 dX7_rings_9 (by decide) (fun y9 he9 => ?_)
    refine J_callS3 moX7_in jw_ml_X7_105 jw_st_X7_in dX7_rings_11 (w_X7_in_y (d - 1) _ x2 y8 y9 (by omega)   ) (by omega) (Nat.zero_le _) (Nat.zero_le _) (Nat.le_of_ble_eq_true rfl) (fun r11 V11 h11 => ?_)
    obtain ⟨⟨y11, rfl, hl11, hh11, hP11_0⟩, hE11⟩ := h11
    have hE11 := hE11.symm
    subst hE11
    try simp only [he8.eq, he9.eq] at hP11_0
    refine Jz_if_ne (tgt := 20) jEq.rf dX7_rings_14 (by decide) (fun c14 => ?_) (fun c14 => ?_)
    · refine J_aload_n dX7_rings_20 rfl ?_
      refine J_iload_n dX7_rings_21 rfl ?_
      refine J_iload_n dX7_rings_22 rfl ?_
      refine Jz_iconst 1 dX7_rings_23 (by decide) (fun y23 he23 => ?_)
      refine Jz_isub jEq.rf he23 dX7_rings_24 (by omega) (by omega) (fun y24 he24 => ?_)
      have hig : ((x1.toInt.toNat : Nat) : Int) = x1.toInt := by omega
      have hix : 21 * x1.toInt.toNat + (x2.toInt - 1).toNat = (21 * x1.toInt + (x2.toInt - 1)).toNat := by omega
      have hmo0 : jmo x1.toInt (x2.toInt - 1).toNat KN CO SQ RG BG (21 * x1.toInt + (x2.toInt - 1)).toNat := by
          have q := hmo x1.toInt.toNat (x2.toInt - 1).toNat (by omega) (by omega)
          rw [hig, hix] at q
          exact q
      obtain ⟨w25p4, hF25p4, b25p4, rfl, hb25p4⟩ := hKm.2 4 (.inr (some (.inl 17))) rfl
      obtain ⟨w25p6, hF25p6, b25p6, rfl, hb25p6⟩ := hKm.2 6 (.inr (some (.inl 18))) rfl
      obtain ⟨w25p7, hF25p7, b25p7, rfl, hb25p7⟩ := hKm.2 7 (.inr (some (.inl 19))) rfl
      obtain ⟨w25p8, hF25p8, b25p8, rfl, hb25p8⟩ := hKm.2 8 (.inr (some (.inl 20))) rfl
      obtain ⟨w25p17, hF25p17, b25p17, rfl, hb25p17⟩ := hKm.2 17 (.inr (some (.inl 26))) rfl
      obtain ⟨n25q17, f25q17, hA25q17, hN25q17, hM25q17, hv25q17⟩ := WT_arrI (r := (-2147483648, 2147483647)) hW id rfl hb25p4
      obtain rfl := hM25q17 120 rfl
      clear hN25q17 hM25q17
      obtain ⟨n25q18, f25q18, hA25q18, hN25q18, hM25q18, hv25q18⟩ := WT_arrI (r := (-2147483648, 2147483647)) hW id rfl hb25p6
      obtain rfl := hM25q18 121 rfl
      clear hN25q18 hM25q18
      obtain ⟨n25q19, f25q19, hA25q19, hN25q19, hM25q19, hv25q19⟩ := WT_arrI (r := (-2147483648, 2147483647)) hW id rfl hb25p7
      obtain rfl := hM25q19 121 rfl
      clear hN25q19 hM25q19
      obtain ⟨n25q20, f25q20, hA25q20, hN25q20, hM25q20, hv25q20⟩ := WT_arrI (r := (-2147483648, 2147483647)) hW id rfl hb25p8
      obtain rfl := hM25q20 121 rfl
      clear hN25q20 hM25q20
      obtain ⟨n25q26, f25q26, hA25q26, hN25q26, hM25q26, hv25q26⟩ := WT_arrI (r := (-2147483648, 2147483647)) hW id rfl hb25p17
      obtain rfl := hM25q26 22 rfl
      clear hN25q26 hM25q26
      refine Jw_callV2 (q9 := (RX7, TX7, 34)) moX7_counts jw_ml_X7_187 jw_im_X7_counts jw_se_X7_counts ha0 rfl rfl dX7_rings_25 (w_X7_counts_z (d - 1) _ a0 x1 y24 b25p4 b25p6 b25p7 b25p8 kn co sq rg bg se b25p17 f25q17 f25q18 f25q19 f25q20 KN CO SQ RG BG SE f25q26 (by omega) hW  ha0 ⟨_, hM, hF25p4⟩ ⟨_, hM, hF25p6⟩ ⟨_, hM, hF25p7⟩ ⟨_, hM, hF25p8⟩ ⟨_, hM, g11⟩ ⟨_, hM, g12⟩ ⟨_, hM, g13⟩ ⟨_, hM, g14⟩ ⟨_, hM, g15⟩ ⟨_, hM, g16⟩ ⟨_, hM, hF25p17⟩ hA25q17 hA25q18 hA25q19 hA25q20 k1 k2 k3 k4 k5 k6 hA25q26 (by omega) (by omega) (by rw [he24.eq]; omega) (by rw [he24.eq]; omega) hsn0 (by rw [he24.eq]; exact hmo0)) (by omega) (Nat.zero_le _) (Nat.zero_le _) (Nat.le_of_ble_eq_true rfl) (fun r25 V25 h25 => ?_)
      obtain ⟨h25, hX25_0, hX25_1⟩ := h25
      obtain ⟨hW, hx25, hr25⟩ := h25
      have he := he.trans (hx25.sub (jsub_of rfl))
      have hkp := hkp.trans hX25_1
      have ha0 := ha0.mono hx25.1
      have hbm1 := hbm1.mono hx25.1
      have hbm2 := hbm2.mono hx25.1
      have hbm3 := hbm3.mono hx25.1
      have hbm4 := hbm4.mono hx25.1
      have hbm5 := hbm5.mono hx25.1
      have hbm6 := hbm6.mono hx25.1
      have hb25p4 := hb25p4.mono hx25.1
      have hb25p6 := hb25p6.mono hx25.1
      have hb25p7 := hb25p7.mono hx25.1
      have hb25p8 := hb25p8.mono hx25.1
      have hb25p17 := hb25p17.mono hx25.1
      obtain ⟨fs25a0, hOfs25a0, hRfs25a0⟩ := hx25.1.keep hM
      have hKfs25a0 : jokO _ (jFs 5) fs25a0 := hW _ _ id hOfs25a0
      have hFfs25a0_11 := hRfs25a0 _ _ g11
      have hFfs25a0_12 := hRfs25a0 _ _ g12
      have hFfs25a0_13 := hRfs25a0 _ _ g13
      have hFfs25a0_14 := hRfs25a0 _ _ g14
      have hFfs25a0_15 := hRfs25a0 _ _ g15
      have hFfs25a0_16 := hRfs25a0 _ _ g16
      have hFfs25a0_4 := hRfs25a0 _ _ hF25p4
      have hFfs25a0_6 := hRfs25a0 _ _ hF25p6
      have hFfs25a0_7 := hRfs25a0 _ _ hF25p7
      have hFfs25a0_8 := hRfs25a0 _ _ hF25p8
      have hFfs25a0_17 := hRfs25a0 _ _ hF25p17
      cases hr25
      obtain ⟨KN25, CO25, SQ25, RG25, BG25, SE25, b1, b2, b3, b4, b5, b6, hsn, hkn, hmk, hko, hot⟩ := hX25_0
      simp only [he24.eq] at hkn hmk hko hot
      have hct : jRM V25 a0 := jRM.upd (g := x1.toInt.toNat) (n := (x2.toInt - 1).toNat) (by omega) (by omega) m1 m2 m3 m4 m5 m6 he b1 b2 b3 b4 b5 b6 hsn (by rw [hix]; exact hkn) (by rw [hig, hix]; exact hmk) (by rw [hix]; exact hko) (by rw [hix]; exact hot) hmo
      obtain ⟨hN_KN25, hv_KN25⟩ := WT_rngI (r := (0, 1)) hW id rfl b1
      clear hN_KN25
      obtain ⟨hN_CO25, hv_CO25⟩ := WT_rngI (r := ((-2147483648), 2147483647)) hW id rfl b2
      clear hN_CO25
      obtain ⟨hN_RG25, hv_RG25⟩ := WT_rngI (r := ((-2147483648), 2147483647)) hW id rfl b4
      clear hN_RG25
      obtain ⟨hN_BG25, hv_BG25⟩ := WT_rngI (r := ((-2147483648), 2147483647)) hW id rfl b5
      clear hN_BG25
      obtain ⟨hN_SE25, hv_SE25⟩ := WT_rngI (r := (0, 1)) hW id rfl b6
      clear hN_SE25
      refine J_aload_n dX7_rings_28 rfl ?_
      refine J_get jf_X7_41 dX7_rings_29 hOfs25a0 hFfs25a0_12 ?_
      refine Jz_bipush 21 dX7_rings_32 (by decide) (fun y32 he32 => ?_)
      refine J_iload_n dX7_rings_34 rfl ?_
      refine Jz_imul he32 jEq.rf dX7_rings_35 (by omega) (by omega) (fun y35 he35 => ?_)
      refine J_iload_n dX7_rings_36 rfl ?_
      refine Jz_iadd he35 jEq.rf dX7_rings_37 (by omega) (by omega) (fun y37 he37 => ?_)
      refine Jz_iconst 1 dX7_rings_38 (by decide) (fun y38 he38 => ?_)
      refine Jz_isub he37 he38 dX7_rings_39 (by omega) (by omega) (fun y39 he39 => ?_)
      refine Jz_iald (r := ((-2147483648), 2147483647)) he39 dX7_rings_40 b2 rfl hv_CO25 (by omega) (by omega) (fun y40 hf40 hl40 hh40 => ?_)
      dsimp only at hl40 hh40
      clear hl40 hh40
      have e40 : CO25 (21 * x1.toInt + (x2.toInt - 1)).toNat = y40 := by rw [show (21 * x1.toInt + (x2.toInt - 1)).toNat = (21 * x1.toInt + x2.toInt - 1).toNat by omega, hf40]
      refine Jz_bipush (-5) dX7_rings_41 (by decide) (fun y41 he41 => ?_)
      refine Jz_icmp_ne (tgt := 51) jEq.rf he41 dX7_rings_43 (by decide) (fun c43 => ?_) (fun c43 => ?_)
      · refine J_aload_n dX7_rings_51 rfl ?_
        refine J_get jf_X7_48 dX7_rings_52 hOfs25a0 hFfs25a0_14 ?_
        refine Jz_bipush 21 dX7_rings_55 (by decide) (fun y55 he55 => ?_)
        refine J_iload_n dX7_rings_57 rfl ?_
        refine Jz_imul he55 jEq.rf dX7_rings_58 (by omega) (by omega) (fun y58 he58 => ?_)
        refine J_iload_n dX7_rings_59 rfl ?_
        refine Jz_iadd he58 jEq.rf dX7_rings_60 (by omega) (by omega) (fun y60 he60 => ?_)
        refine Jz_iconst 1 dX7_rings_61 (by decide) (fun y61 he61 => ?_)
        refine Jz_isub he60 he61 dX7_rings_62 (by omega) (by omega) (fun y62 he62 => ?_)
        refine Jz_iald (r := ((-2147483648), 2147483647)) he62 dX7_rings_63 b4 rfl hv_RG25 (by omega) (by omega) (fun y63 hf63 hl63 hh63 => ?_)
        dsimp only at hl63 hh63
        clear hl63 hh63
        have e63 : RG25 (21 * x1.toInt + (x2.toInt - 1)).toNat = y63 := by rw [show (21 * x1.toInt + (x2.toInt - 1)).toNat = (21 * x1.toInt + x2.toInt - 1).toNat by omega, hf63]
        exact J_ret (r := some (.int _)) dX7_rings_64 ⟨rfl, _, rfl, rfl⟩ (⟨⟨hW, he, ⟨_, rfl, (j_rng _).1, (j_rng _).2, (Or.inl ⟨(by omega), (hmk.co.elim (fun q => Or.inl ⟨q.1, e63.symm.trans q.2.2.2.2.1⟩) (fun q => absurd (show y40.toInt = -5 by rw [← e40]; exact q.2) (by omega)))⟩)⟩⟩, hct, hkp⟩)
      · refine Jz_bipush (-5) dX7_rings_46 (by decide) (fun y46 he46 => ?_)
        refine J_goto (tgt := 64) dX7_rings_48 (by decide) ?_
        exact J_ret (r := some (.int _)) dX7_rings_64 ⟨rfl, _, rfl, rfl⟩ (⟨⟨hW, he, ⟨_, rfl, (j_rng _).1, (j_rng _).2, (Or.inl ⟨(by omega), (hmk.co.elim (fun q => absurd q.2.1 (by rw [e40]; omega)) (fun q => Or.inr ⟨q.1, he46.eq⟩))⟩)⟩⟩, hct, hkp⟩)
    · refine Jz_bipush (-2) dX7_rings_17 (by decide) (fun y17 he17 => ?_)
      exact J_ret (r := some (.int _)) dX7_rings_19 ⟨rfl, _, rfl, rfl⟩ (⟨⟨hW, he, ⟨_, rfl, (j_rng _).1, (j_rng _).2, (Or.inr ⟨(by omega), he17.eq⟩)⟩⟩, hct, hkp⟩)
set_option maxRecDepth 100000 in
set_option maxHeartbeats 8000000 in
theorem w_X7_bridges_z {tS : jTS} (d : Nat) (V0 : jH) (a0 : Nat) (x1 : Int32) (x2 : Int32) (hd : 3 ≤ d) (hW : WT V0) (ha0 : jis V0 (.inr 5) a0) (hct : jRM V0 a0) : jTot tS mX7_bridges d [.ref a0, .int x1, .int x2] V0 0 0 (fun r V => (jPost [.inr 5, .inl 40, .inl 23, .inl 17, .inl 18, .inl 19, .inl 20, .inl 41, .inl 26, .inl 46, .inl 24, .inl 25] V0 (fun r _ => ∃ y : Int32, r = some (.int y) ∧ ((-2147483648) ≤ y.toInt) ∧ (y.toInt ≤ 2147483647) ∧ (((0 ≤ x1.toInt ∧ x1.toInt ≤ 3 ∧ 1 ≤ x2.toInt ∧ x2.toInt ≤ 20) ∧ ((jTT x1.toInt x2.toInt.toNat jL0 ≤ 600000 ∧ y = (jrq x1.toInt x2.toInt.toNat).2.2.2) ∨ (600000 < jTT x1.toInt x2.toInt.toNat jL0 ∧ y.toInt = -5))) ∨ (¬ (0 ≤ x1.toInt ∧ x1.toInt ≤ 3 ∧ 1 ≤ x2.toInt ∧ x2.toInt ≤ 20) ∧ y.toInt = -2)))) r V ∧ jRM V a0 ∧ jkc 5 [0, 23, 24] V0 V) := by
  refine jTot.of_J [some (.ref a0), some (.int x1), some (.int x2)] moX7_bridges (Nat.le_of_ble_eq_true rfl) rfl ?_
  have hrx1 := j_rng x1
  have hrx2 := j_rng x2
  have he : jeff [.inr 5, .inl 40, .inl 23, .inl 17, .inl 18, .inl 19, .inl 20, .inl 41, .inl 26, .inl 46, .inl 24, .inl 25] V0 V0 := jeff.refl _ _
  have hkp : jkc 5 [0, 23, 24] V0 V0 := jkc.rf
  obtain ⟨kn, co, sq, rg, bg, se, KN, CO, SQ, RG, BG, SE, ⟨m1, m2, m3, m4, m5, m6⟩, ⟨k1, k2, k3, k4, k5, k6⟩, hsn0, hmo⟩ := id hct
  obtain ⟨ms, hM, g11⟩ := id m1
  have g12 := m2.get hM
  have g13 := m3.get hM
  have g14 := m4.get hM
  have g15 := m5.get hM
  have g16 := m6.get hM
  have hKm : jokO V0 (jFs 5) ms := hW _ _ id hM
  have hbm1 : jis V0 (.inl 40) kn := ⟨_, k1, rfl⟩
  have hbm2 : jis V0 (.inl 23) co := ⟨_, k2, rfl⟩
  have hbm3 : jis V0 (.inl 46) sq := ⟨_, k3, rfl⟩
  have hbm4 : jis V0 (.inl 24) rg := ⟨_, k4, rfl⟩
  have hbm5 : jis V0 (.inl 25) bg := ⟨_, k5, rfl⟩
  have hbm6 : jis V0 (.inl 41) se := ⟨_, k6, rfl⟩
  refine J_iload_n dX7_bridges_0 rfl ?_
  refine J_callS1 moX7_isGround jw_ml_X7_184 jw_st_X7_isGround dX7_bridges_1 (w_X7_isGround_y (d - 1) _ x1 (by omega)   ) (by omega) (Nat.zero_le _) (Nat.zero_le _) (Nat.le_of_ble_eq_true rfl) (fun r1 V1 h1 => ?_)
  obtain ⟨⟨y1, rfl, hl1, hh1, hP1_0⟩, hE1⟩ := h1
  have hE1 := hE1.symm
  subst hE1
  refine Jz_if_eq (tgt := 17) jEq.rf dX7_bridges_4 (by decide) (fun c4 => ?_) (fun c4 => ?_)
  · refine Jz_bipush (-2) dX7_bridges_17 (by decide) (fun y17 he17 => ?_)
    exact J_ret (r := some (.int _)) dX7_bridges_19 ⟨rfl, _, rfl, rfl⟩ (⟨⟨hW, he, ⟨_, rfl, (j_rng _).1, (j_rng _).2, (Or.inr ⟨(by omega), he17.eq⟩)⟩⟩, hct, hkp⟩)
  · refine J_iload_n dX7_bridges_7 rfl ?_
    refine Jz_iconst 1 dX7_bridges_8 (by decide) (fun y8 he8 => ?_)
    refine Jz_bipush 20 dX7_bridges_9 (by decide) (fun y9 he9 => ?_)
    refine J_callS3 moX7_in jw_ml_X7_105 jw_st_X7_in dX7_bridges_11 (w_X7_in_y (d - 1) _ x2 y8 y9 (by omega)   ) (by omega) (Nat.zero_le _) (Nat.zero_le _) (Nat.le_of_ble_eq_true rfl) (fun r11 V11 h11 => ?_)
    obtain ⟨⟨y11, rfl, hl11, hh11, hP11_0⟩, hE11⟩ := h11
    have hE11 := hE11.symm
    subst hE11
    try simp only [he8.eq, he9.eq] at hP11_0
    refine Jz_if_ne (tgt := 20) jEq.rf dX7_bridges_14 (by decide) (fun c14 => ?_) (fun c14 => ?_)
    · refine J_aload_n dX7_bridges_20 rfl ?_
      refine J_iload_n dX7_bridges_21 rfl ?_
      refine J_iload_n dX7_bridges_22 rfl ?_
      have hig : ((x1.toInt.toNat : Nat) : Int) = x1.toInt := by omega
      have hix : 21 * x1.toInt.toNat + x2.toInt.toNat = (21 * x1.toInt + x2.toInt).toNat := by omega
      have hmo0 : jmo x1.toInt x2.toInt.toNat KN CO SQ RG BG (21 * x1.toInt + x2.toInt).toNat := by
          have q := hmo x1.toInt.toNat x2.toInt.toNat (by omega) (by omega)
          rw [hig, hix] at q
          exact q
      obtain ⟨w23p4, hF23p4, b23p4, rfl, hb23p4⟩ := hKm.2 4 (.inr (some (.inl 17))) rfl
      obtain ⟨w23p6, hF23p6, b23p6, rfl, hb23p6⟩ := hKm.2 6 (.inr (some (.inl 18))) rfl
      obtain ⟨w23p7, hF23p7, b23p7, rfl, hb23p7⟩ := hKm.2 7 (.inr (some (.inl 19))) rfl
      obtain ⟨w23p8, hF23p8, b23p8, rfl, hb23p8⟩ := hKm.2 8 (.inr (some (.inl 20))) rfl
      obtain ⟨w23p17, hF23p17, b23p17, rfl, hb23p17⟩ := hKm.2 17 (.inr (some (.inl 26))) rfl
      obtain ⟨n23q17, f23q17, hA23q17, hN23q17, hM23q17, hv23q17⟩ := WT_arrI (r := (-2147483648, 2147483647)) hW id rfl hb23p4
      obtain rfl := hM23q17 120 rfl
      clear hN23q17 hM23q17
      obtain ⟨n23q18, f23q18, hA23q18, hN23q18, hM23q18, hv23q18⟩ := WT_arrI (r := (-2147483648, 2147483647)) hW id rfl hb23p6
      obtain rfl := hM23q18 121 rfl
      clear hN23q18 hM23q18
      obtain ⟨n23q19, f23q19, hA23q19, hN23q19, hM23q19, hv23q19⟩ := WT_arrI (r := (-2147483648, 2147483647)) hW id rfl hb23p7
      obtain rfl := hM23q19 121 rfl
      clear hN23q19 hM23q19
      obtain ⟨n23q20, f23q20, hA23q20, hN23q20, hM23q20, hv23q20⟩ := WT_arrI (r := (-2147483648, 2147483647)) hW id rfl hb23p8
      obtain rfl := hM23q20 121 rfl
      clear hN23q20 hM23q20
      obtain ⟨n23q26, f23q26, hA23q26, hN23q26, hM23q26, hv23q26⟩ := WT_arrI (r := (-2147483648, 2147483647)) hW id rfl hb23p17
      obtain rfl := hM23q26 22 rfl
      clear hN23q26 hM23q26
      refine Jw_callV2 (q9 := (RX7, TX7, 34)) moX7_counts jw_ml_X7_187 jw_im_X7_counts jw_se_X7_counts ha0 rfl rfl dX7_bridges_23 (w_X7_counts_z (d - 1) _ a0 x1 x2 b23p4 b23p6 b23p7 b23p8 kn co sq rg bg se b23p17 f23q17 f23q18 f23q19 f23q20 KN CO SQ RG BG SE f23q26 (by omega) hW  ha0 ⟨_, hM, hF23p4⟩ ⟨_, hM, hF23p6⟩ ⟨_, hM, hF23p7⟩ ⟨_, hM, hF23p8⟩ ⟨_, hM, g11⟩ ⟨_, hM, g12⟩ ⟨_, hM, g13⟩ ⟨_, hM, g14⟩ ⟨_, hM, g15⟩ ⟨_, hM, g16⟩ ⟨_, hM, hF23p17⟩ hA23q17 hA23q18 hA23q19 hA23q20 k1 k2 k3 k4 k5 k6 hA23q26 (by omega) (by omega) (by omega) (by omega) hsn0 hmo0) (by omega) (Nat.zero_le _) (Nat.zero_le _) (Nat.le_of_ble_eq_true rfl) (fun r23 V23 h23 => ?_)
      obtain ⟨h23, hX23_0, hX23_1⟩ := h23
      obtain ⟨hW, hx23, hr23⟩ := h23
      have he := he.trans (hx23.sub (jsub_of rfl))
      have hkp := hkp.trans hX23_1
      have ha0 := ha0.mono hx23.1
      have hbm1 := hbm1.mono hx23.1
      have hbm2 := hbm2.mono hx23.1
      have hbm3 := hbm3.mono hx23.1
      have hbm4 := hbm4.mono hx23.1
      have hbm5 := hbm5.mono hx23.1
      have hbm6 := hbm6.mono hx23.1
      have hb23p4 := hb23p4.mono hx23.1
      have hb23p6 := hb23p6.mono hx23.1
      have hb23p7 := hb23p7.mono hx23.1
      have hb23p8 := hb23p8.mono hx23.1
      have hb23p17 := hb23p17.mono hx23.1
      obtain ⟨fs23a0, hOfs23a0, hRfs23a0⟩ := hx23.1.keep hM
      have hKfs23a0 : jokO _ (jFs 5) fs23a0 := hW _ _ id hOfs23a0
      have hFfs23a0_11 := hRfs23a0 _ _ g11
      have hFfs23a0_12 := hRfs23a0 _ _ g12
      have hFfs23a0_13 := hRfs23a0 _ _ g13
      have hFfs23a0_14 := hRfs23a0 _ _ g14
      have hFfs23a0_15 := hRfs23a0 _ _ g15
      have hFfs23a0_16 := hRfs23a0 _ _ g16
      have hFfs23a0_4 := hRfs23a0 _ _ hF23p4
      have hFfs23a0_6 := hRfs23a0 _ _ hF23p6
      have hFfs23a0_7 := hRfs23a0 _ _ hF23p7
      have hFfs23a0_8 := hRfs23a0 _ _ hF23p8
      have hFfs23a0_17 := hRfs23a0 _ _ hF23p17
      cases hr23
      obtain ⟨KN23, CO23, SQ23, RG23, BG23, SE23, b1, b2, b3, b4, b5, b6, hsn, hkn, hmk, hko, hot⟩ := hX23_0
      have hct : jRM V23 a0 := jRM.upd (g := x1.toInt.toNat) (n := x2.toInt.toNat) (by omega) (by omega) m1 m2 m3 m4 m5 m6 he b1 b2 b3 b4 b5 b6 hsn (by rw [hix]; exact hkn) (by rw [hig, hix]; exact hmk) (by rw [hix]; exact hko) (by rw [hix]; exact hot) hmo
      obtain ⟨hN_KN23, hv_KN23⟩ := WT_rngI (r := (0, 1)) hW id rfl b1
      clear hN_KN23
      obtain ⟨hN_CO23, hv_CO23⟩ := WT_rngI (r := ((-2147483648), 2147483647)) hW id rfl b2
      clear hN_CO23
      obtain ⟨hN_RG23, hv_RG23⟩ := WT_rngI (r := ((-2147483648), 2147483647)) hW id rfl b4
      clear hN_RG23
      obtain ⟨hN_BG23, hv_BG23⟩ := WT_rngI (r := ((-2147483648), 2147483647)) hW id rfl b5
      clear hN_BG23
      obtain ⟨hN_SE23, hv_SE23⟩ := WT_rngI (r := (0, 1)) hW id rfl b6
      clear hN_SE23
      refine J_aload_n dX7_bridges_26 rfl ?_
      refine J_get jf_X7_41 dX7_bridges_27 hOfs23a0 hFfs23a0_12 ?_
      refine Jz_bipush 21 dX7_bridges_30 (by decide) (fun y30 he30 => ?_)
      refine J_iload_n dX7_bridges_32 rfl ?_
      refine Jz_imul he30 jEq.rf dX7_bridges_33 (by omega) (by omega) (fun y33 he33 => ?_)
      refine J_iload_n dX7_bridges_34 rfl ?_
      refine Jz_iadd he33 jEq.rf dX7_bridges_35 (by omega) (by omega) (fun y35 he35 => ?_)
      refine Jz_iald (r := ((-2147483648), 2147483647)) he35 dX7_bridges_36 b2 rfl hv_CO23 (by omega) (by omega) (fun y36 hf36 hl36 hh36 => ?_)
      dsimp only at hl36 hh36
      clear hl36 hh36
      have e36 : CO23 (21 * x1.toInt + x2.toInt).toNat = y36 := by rw [hf36]
      refine Jz_bipush (-5) dX7_bridges_37 (by decide) (fun y37 he37 => ?_)
      refine Jz_icmp_ne (tgt := 47) jEq.rf he37 dX7_bridges_39 (by decide) (fun c39 => ?_) (fun c39 => ?_)
      · refine J_aload_n dX7_bridges_47 rfl ?_
        refine J_get jf_X7_51 dX7_bridges_48 hOfs23a0 hFfs23a0_15 ?_
        refine Jz_bipush 21 dX7_bridges_51 (by decide) (fun y51 he51 => ?_)
        refine J_iload_n dX7_bridges_53 rfl ?_
        refine Jz_imul he51 jEq.rf dX7_bridges_54 (by omega) (by omega) (fun y54 he54 => ?_)
        refine J_iload_n dX7_bridges_55 rfl ?_
        refine Jz_iadd he54 jEq.rf dX7_bridges_56 (by omega) (by omega) (fun y56 he56 => ?_)
        refine Jz_iald (r := ((-2147483648), 2147483647)) he56 dX7_bridges_57 b5 rfl hv_BG23 (by omega) (by omega) (fun y57 hf57 hl57 hh57 => ?_)
        dsimp only at hl57 hh57
        clear hl57 hh57
        have e57 : BG23 (21 * x1.toInt + x2.toInt).toNat = y57 := by rw [hf57]
        exact J_ret (r := some (.int _)) dX7_bridges_58 ⟨rfl, _, rfl, rfl⟩ (⟨⟨hW, he, ⟨_, rfl, (j_rng _).1, (j_rng _).2, (Or.inl ⟨(by omega), (hmk.co.elim (fun q => Or.inl ⟨q.1, e57.symm.trans q.2.2.2.2.2⟩) (fun q => absurd (show y36.toInt = -5 by rw [← e36]; exact q.2) (by omega)))⟩)⟩⟩, hct, hkp⟩)
      · refine Jz_bipush (-5) dX7_bridges_42 (by decide) (fun y42 he42 => ?_)
        refine J_goto (tgt := 58) dX7_bridges_44 (by decide) ?_
        exact J_ret (r := some (.int _)) dX7_bridges_58 ⟨rfl, _, rfl, rfl⟩ (⟨⟨hW, he, ⟨_, rfl, (j_rng _).1, (j_rng _).2, (Or.inl ⟨(by omega), (hmk.co.elim (fun q => absurd q.2.1 (by rw [e36]; omega)) (fun q => Or.inr ⟨q.1, he42.eq⟩))⟩)⟩⟩, hct, hkp⟩)
    · refine Jz_bipush (-2) dX7_bridges_17 (by decide) (fun y17 he17 => ?_)
      exact J_ret (r := some (.int _)) dX7_bridges_19 ⟨rfl, _, rfl, rfl⟩ (⟨⟨hW, he, ⟨_, rfl, (j_rng _).1, (j_rng _).2, (Or.inr ⟨(by omega), he17.eq⟩)⟩⟩, hct, hkp⟩)
set_option maxRecDepth 100000 in
set_option maxHeartbeats 8000000 in
theorem w_X7_forms_k {tS : jTS} (d : Nat) (V0 : jH) (a0 : Nat) (x1 : Int32) (x2 : Int32) (hd : 5 ≤ d) (hW : WT V0) (ha0 : jis V0 (.inr 5) a0) (hct : jRM V0 a0) : jTot tS mX7_forms d [.ref a0, .int x1, .int x2] V0 0 0 (fun r V => (jPost [.inr 5, .inl 40, .inl 23, .inl 17, .inl 18, .inl 19, .inl 20, .inl 41, .inl 26, .inl 46, .inl 24, .inl 25, .inl 21, .inl 27] V0 (fun r _ => ∃ y : Int32, r = some (.int y) ∧ ((-2147483648) ≤ y.toInt) ∧ (y.toInt ≤ 2147483647))) r V ∧ jRM V a0 ∧ jkc 5 [0, 23, 24] V0 V) := by
  refine jTot.of_J [some (.ref a0), some (.int x1), some (.int x2), none, none, none] moX7_forms (Nat.le_of_ble_eq_true rfl) rfl ?_
  have hrx1 := j_rng x1
  have hrx2 := j_rng x2
  have he : jeff [.inr 5, .inl 40, .inl 23, .inl 17, .inl 18, .inl 19, .inl 20, .inl 41, .inl 26, .inl 46, .inl 24, .inl 25, .inl 21, .inl 27] V0 V0 := jeff.refl _ _
  have hkp : jkc 5 [0, 23, 24] V0 V0 := jkc.rf
  obtain ⟨kn, co, sq, rg, bg, se, KN, CO, SQ, RG, BG, SE, ⟨m1, m2, m3, m4, m5, m6⟩, ⟨k1, k2, k3, k4, k5, k6⟩, hsn0, hmo⟩ := id hct
  obtain ⟨ms, hM, g11⟩ := id m1
  have g12 := m2.get hM
  have g13 := m3.get hM
  have g14 := m4.get hM
  have g15 := m5.get hM
  have g16 := m6.get hM
  have hKm : jokO V0 (jFs 5) ms := hW _ _ id hM
  have hbm1 : jis V0 (.inl 40) kn := ⟨_, k1, rfl⟩
  have hbm2 : jis V0 (.inl 23) co := ⟨_, k2, rfl⟩
  have hbm3 : jis V0 (.inl 46) sq := ⟨_, k3, rfl⟩
  have hbm4 : jis V0 (.inl 24) rg := ⟨_, k4, rfl⟩
  have hbm5 : jis V0 (.inl 25) bg := ⟨_, k5, rfl⟩
  have hbm6 : jis V0 (.inl 41) se := ⟨_, k6, rfl⟩
  refine J_iload_n dX7_forms_0 rfl ?_
  refine J_callS1 moX7_isGround jw_ml_X7_184 jw_st_X7_isGround dX7_forms_1 (w_X7_isGround (d - 1) _ x1 (by omega)   ) (by omega) (Nat.zero_le _) (Nat.zero_le _) (Nat.le_of_ble_eq_true rfl) (fun r1 V1 h1 => ?_)
  obtain ⟨⟨y1, rfl, hl1, hh1, hI1_0⟩, hE1⟩ := h1
  have hE1 := hE1.symm
  subst hE1
  refine Jz_if_eq (tgt := 17) jEq.rf dX7_forms_4 (by decide) (fun c4 => ?_) (fun c4 => ?_)
  · refine Jz_bipush (-2) dX7_forms_17 (by decide) (fun y17 he17 => ?_)
    exact J_ret (r := some (.int _)) dX7_forms_19 ⟨rfl, _, rfl, rfl⟩ (⟨⟨hW, he, ⟨_, rfl, (j_rng _).1, (j_rng _).2⟩⟩, hct, hkp⟩)
  · have q4_0 := hI1_0.of (by omega)
    refine J_iload_n dX7_forms_7 rfl ?_
    refine Jz_iconst 0 dX7_forms_8 (by decide) (fun y8 he8 => ?_)
    refine Jz_bipush 7 dX7_forms_9 (by decide) (fun y9 he9 => ?_)
    refine J_callS3 moX7_in jw_ml_X7_105 jw_st_X7_in dX7_forms_11 (w_X7_in (d - 1) _ x2 y8 y9 (by omega)   ) (by omega) (Nat.zero_le _) (Nat.zero_le _) (Nat.le_of_ble_eq_true rfl) (fun r11 V11 h11 => ?_)
    obtain ⟨⟨y11, rfl, hl11, hh11, hI11_0, hI11_1⟩, hE11⟩ := h11
    have hE11 := hE11.symm
    subst hE11
    refine Jz_if_ne (tgt := 20) jEq.rf dX7_forms_14 (by decide) (fun c14 => ?_) (fun c14 => ?_)
    · have q14_0 := hI11_0.of (by omega)
      try simp only [he8.eq, he9.eq] at q14_0
      refine J_aload_n dX7_forms_20 rfl ?_
      refine J_iload_n dX7_forms_21 rfl ?_
      refine J_iload_n dX7_forms_22 rfl ?_
      have hig : ((x1.toInt.toNat : Nat) : Int) = x1.toInt := by omega
      have hix : 21 * x1.toInt.toNat + x2.toInt.toNat = (21 * x1.toInt + x2.toInt).toNat := by omega
      have hmo0 : jmo x1.toInt x2.toInt.toNat KN CO SQ RG BG (21 * x1.toInt + x2.toInt).toNat := by
          have q := hmo x1.toInt.toNat x2.toInt.toNat (by omega) (by omega)
          rw [hig, hix] at q
          exact q
      obtain ⟨w23p4, hF23p4, b23p4, rfl, hb23p4⟩ := hKm.2 4 (.inr (some (.inl 17))) rfl
      obtain ⟨w23p6, hF23p6, b23p6, rfl, hb23p6⟩ := hKm.2 6 (.inr (some (.inl 18))) rfl
      obtain ⟨w23p7, hF23p7, b23p7, rfl, hb23p7⟩ := hKm.2 7 (.inr (some (.inl 19))) rfl
      obtain ⟨w23p8, hF23p8, b23p8, rfl, hb23p8⟩ := hKm.2 8 (.inr (some (.inl 20))) rfl
      obtain ⟨w23p17, hF23p17, b23p17, rfl, hb23p17⟩ := hKm.2 17 (.inr (some (.inl 26))) rfl
      obtain ⟨n23q17, f23q17, hA23q17, hN23q17, hM23q17, hv23q17⟩ := WT_arrI (r := (-2147483648, 2147483647)) hW id rfl hb23p4
      obtain rfl := hM23q17 120 rfl
      clear hN23q17 hM23q17
      obtain ⟨n23q18, f23q18, hA23q18, hN23q18, hM23q18, hv23q18⟩ := WT_arrI (r := (-2147483648, 2147483647)) hW id rfl hb23p6
      obtain rfl := hM23q18 121 rfl
      clear hN23q18 hM23q18
      obtain ⟨n23q19, f23q19, hA23q19, hN23q19, hM23q19, hv23q19⟩ := WT_arrI (r := (-2147483648, 2147483647)) hW id rfl hb23p7
      obtain rfl := hM23q19 121 rfl
      clear hN23q19 hM23q19
      obtain ⟨n23q20, f23q20, hA23q20, hN23q20, hM23q20, hv23q20⟩ := WT_arrI (r := (-2147483648, 2147483647)) hW id rfl hb23p8
      obtain rfl := hM23q20 121 rfl
      clear hN23q20 hM23q20
      obtain ⟨n23q26, f23q26, hA23q26, hN23q26, hM23q26, hv23q26⟩ := WT_arrI (r := (-2147483648, 2147483647)) hW id rfl hb23p17
      obtain rfl := hM23q26 22 rfl
      clear hN23q26 hM23q26
      refine Jw_callV2 (q9 := (RX7, TX7, 34)) moX7_counts jw_ml_X7_187 jw_im_X7_counts jw_se_X7_counts ha0 rfl rfl dX7_forms_23 (w_X7_counts_z (d - 1) _ a0 x1 x2 b23p4 b23p6 b23p7 b23p8 kn co sq rg bg se b23p17 f23q17 f23q18 f23q19 f23q20 KN CO SQ RG BG SE f23q26 (by omega) hW  ha0 ⟨_, hM, hF23p4⟩ ⟨_, hM, hF23p6⟩ ⟨_, hM, hF23p7⟩ ⟨_, hM, hF23p8⟩ ⟨_, hM, g11⟩ ⟨_, hM, g12⟩ ⟨_, hM, g13⟩ ⟨_, hM, g14⟩ ⟨_, hM, g15⟩ ⟨_, hM, g16⟩ ⟨_, hM, hF23p17⟩ hA23q17 hA23q18 hA23q19 hA23q20 k1 k2 k3 k4 k5 k6 hA23q26 (by omega) (by omega) (by omega) (by omega) hsn0 hmo0) (by omega) (Nat.zero_le _) (Nat.zero_le _) (Nat.le_of_ble_eq_true rfl) (fun r23 V23 h23 => ?_)
      obtain ⟨h23, hX23_0, hX23_1⟩ := h23
      obtain ⟨hW, hx23, hr23⟩ := h23
      have he := he.trans (hx23.sub (jsub_of rfl))
      have hkp := hkp.trans hX23_1
      have ha0 := ha0.mono hx23.1
      have hbm1 := hbm1.mono hx23.1
      have hbm2 := hbm2.mono hx23.1
      have hbm3 := hbm3.mono hx23.1
      have hbm4 := hbm4.mono hx23.1
      have hbm5 := hbm5.mono hx23.1
      have hbm6 := hbm6.mono hx23.1
      have hb23p4 := hb23p4.mono hx23.1
      have hb23p6 := hb23p6.mono hx23.1
      have hb23p7 := hb23p7.mono hx23.1
      have hb23p8 := hb23p8.mono hx23.1
      have hb23p17 := hb23p17.mono hx23.1
      obtain ⟨fs23a0, hOfs23a0, hRfs23a0⟩ := hx23.1.keep hM
      have hKfs23a0 : jokO _ (jFs 5) fs23a0 := hW _ _ id hOfs23a0
      have hFfs23a0_11 := hRfs23a0 _ _ g11
      have hFfs23a0_12 := hRfs23a0 _ _ g12
      have hFfs23a0_13 := hRfs23a0 _ _ g13
      have hFfs23a0_14 := hRfs23a0 _ _ g14
      have hFfs23a0_15 := hRfs23a0 _ _ g15
      have hFfs23a0_16 := hRfs23a0 _ _ g16
      have hFfs23a0_4 := hRfs23a0 _ _ hF23p4
      have hFfs23a0_6 := hRfs23a0 _ _ hF23p6
      have hFfs23a0_7 := hRfs23a0 _ _ hF23p7
      have hFfs23a0_8 := hRfs23a0 _ _ hF23p8
      have hFfs23a0_17 := hRfs23a0 _ _ hF23p17
      cases hr23
      obtain ⟨KN23, CO23, SQ23, RG23, BG23, SE23, b1, b2, b3, b4, b5, b6, hsn, hkn, hmk, hko, hot⟩ := hX23_0
      have hct : jRM V23 a0 := jRM.upd (g := x1.toInt.toNat) (n := x2.toInt.toNat) (by omega) (by omega) m1 m2 m3 m4 m5 m6 he b1 b2 b3 b4 b5 b6 hsn (by rw [hix]; exact hkn) (by rw [hig, hix]; exact hmk) (by rw [hix]; exact hko) (by rw [hix]; exact hot) hmo
      refine J_aload_n dX7_forms_26 rfl ?_
      refine J_get jf_X7_41 dX7_forms_27 hOfs23a0 hFfs23a0_12 ?_
      refine Jz_bipush 21 dX7_forms_30 (by decide) (fun y30 he30 => ?_)
      refine J_iload_n dX7_forms_32 rfl ?_
      refine Jz_imul he30 jEq.rf dX7_forms_33 (by omega) (by omega) (fun y33 he33 => ?_)
      refine J_iload_n dX7_forms_34 rfl ?_
      refine Jz_iadd he33 jEq.rf dX7_forms_35 (by omega) (by omega) (fun y35 he35 => ?_)
      obtain ⟨n36, f36, hA36, hN36, hM36, hv36⟩ := WT_arrI (r := (-2147483648, 2147483647)) hW id rfl hbm2
      obtain rfl := hM36 84 rfl
      clear hN36 hM36
      refine Jz_ialdw he35 dX7_forms_36 hA36 rfl (by omega) (by omega) (fun y36 => ?_)
      refine Jz_bipush (-5) dX7_forms_37 (by decide) (fun y37 he37 => ?_)
      refine Jz_icmp_eq (tgt := 59) jEq.rf he37 dX7_forms_39 (by decide) (fun c39 => ?_) (fun c39 => ?_)
      · refine Jz_bipush (-5) dX7_forms_59 (by decide) (fun y59 he59 => ?_)
        exact J_ret (r := some (.int _)) dX7_forms_61 ⟨rfl, _, rfl, rfl⟩ (⟨⟨hW, he, ⟨_, rfl, (j_rng _).1, (j_rng _).2⟩⟩, hct, hkp⟩)
      · refine J_aload_n dX7_forms_42 rfl ?_
        refine J_get jf_X7_41 dX7_forms_43 hOfs23a0 hFfs23a0_12 ?_
        refine Jz_bipush 21 dX7_forms_46 (by decide) (fun y46 he46 => ?_)
        refine J_iload_n dX7_forms_48 rfl ?_
        refine Jz_imul he46 jEq.rf dX7_forms_49 (by omega) (by omega) (fun y49 he49 => ?_)
        refine J_iload_n dX7_forms_50 rfl ?_
        refine Jz_iadd he49 jEq.rf dX7_forms_51 (by omega) (by omega) (fun y51 he51 => ?_)
        refine Jz_ialdw he51 dX7_forms_52 hA36 rfl (by omega) (by omega) (fun y52 => ?_)
        refine Jz_sipush 3000 dX7_forms_53 (by decide) (fun y53 he53 => ?_)
        refine Jz_icmp_le (tgt := 62) jEq.rf he53 dX7_forms_56 (by decide) (fun c56 => ?_) (fun c56 => ?_)
        · refine Jz_bipush 8 dX7_forms_62 (by decide) (fun y62 he62 => ?_)
          refine J_iload_n dX7_forms_64 rfl ?_
          refine Jz_imul he62 jEq.rf dX7_forms_65 (by omega) (by omega) (fun y65 he65 => ?_)
          refine J_iload_n dX7_forms_66 rfl ?_
          refine Jz_iadd he65 jEq.rf dX7_forms_67 (by omega) (by omega) (fun y67 he67 => ?_)
          refine J_istore_n dX7_forms_68 rfl (by decide) ?_
          refine J_aload_n dX7_forms_69 rfl ?_
          obtain ⟨w70, hF70, b70, rfl, hb70⟩ := hKfs23a0.2 18 (.inr (some (.inl 27))) rfl
          refine J_get jf_X7_61 dX7_forms_70 hOfs23a0 hF70 ?_
          refine J_iload_n dX7_forms_73 rfl ?_
          obtain ⟨n74, f74, hA74, hN74, hM74, hv74⟩ := WT_arrI (r := (-2147483648, 2147483647)) hW id rfl hb70
          obtain rfl := hM74 32 rfl
          clear hN74 hM74
          refine Jz_ialdw he67 dX7_forms_74 hA74 rfl (by omega) (by omega) (fun y74 => ?_)
          refine Jz_if_ne (tgt := 142) jEq.rf dX7_forms_75 (by decide) (fun c75 => ?_) (fun c75 => ?_)
          · refine J_aload_n dX7_forms_142 rfl ?_
            refine J_get jf_X7_61 dX7_forms_143 hOfs23a0 hF70 ?_
            refine J_iload_n dX7_forms_146 rfl ?_
            refine Jz_ialdw he67 dX7_forms_147 hA74 rfl (by omega) (by omega) (fun y147 => ?_)
            exact J_ret (r := some (.int _)) dX7_forms_148 ⟨rfl, _, rfl, rfl⟩ (⟨⟨hW, he, ⟨_, rfl, (j_rng _).1, (j_rng _).2⟩⟩, hct, hkp⟩)
          · refine J_iload_n dX7_forms_78 rfl ?_
            refine J_callS1 moX7_directions jw_ml_X7_133 jw_st_X7_directions dX7_forms_79 (w_X7_directions (d - 1) _ x1 (by omega)   ) (by omega) (Nat.zero_le _) (Nat.zero_le _) (Nat.le_of_ble_eq_true rfl) (fun r79 V79 h79 => ?_)
            obtain ⟨⟨y79, rfl, hl79, hh79, hP79_0⟩, hE79⟩ := h79
            have hE79 := hE79.symm
            subst hE79
            have hz79 : jEq y79.toInt (jdir (x1.toInt)) := hP79_0
            simp only [hP79_0] at hl79 hh79
            clear hP79_0
            refine J_iload_n dX7_forms_82 rfl ?_
            have hjd := jdir_cases x1.toInt
            refine J_callS2 moX7_power jw_ml_X7_195 jw_st_X7_power dX7_forms_83 (w_X7_power (d - 1) _ y79 x2 (by omega)   (by (try simp only [hz79.eq, true_and, and_true]) <;> omega) (by (try simp only [hz79.eq, true_and, and_true]) <;> omega) (by omega) (by omega)) (by omega) (Nat.zero_le _) (Nat.zero_le _) (Nat.le_of_ble_eq_true rfl) (fun r83 V83 h83 => ?_)
            obtain ⟨⟨y83, rfl, hl83, hh83, hP83_0⟩, hE83⟩ := h83
            have hE83 := hE83.symm
            subst hE83
            clear hl83 hh83
            try simp only [hz79.eq] at hP83_0
            have hz83 : jEq y83.toInt (jpw (jdir (x1.toInt)) (x2.toInt).toNat) := hP83_0
            clear hP83_0
            have hpw := jpw_le6 (d := jdir x1.toInt) (by omega) (by omega) (n := x2.toInt.toNat) (by omega)
            refine J_istore dX7_forms_86 rfl (by decide) ?_
            refine Jz_iconst 0 dX7_forms_88 (by decide) (fun y88 he88 => ?_)
            refine J_istore dX7_forms_89 rfl (by decide) ?_
            have L91 : ∀ (N : Nat) (V : jH) (i5n91 : Int32), WT V → jeff [.inr 5, .inl 40, .inl 23, .inl 17, .inl 18, .inl 19, .inl 20, .inl 41, .inl 26, .inl 46, .inl 24, .inl 25, .inl 21, .inl 27] V0 V → (jis V (.inr 5) a0) → (jkc 5 [0, 23, 24] V0 V) → (jRM V a0) → (0 ≤ i5n91.toInt) → (300000 - i5n91.toInt).toNat < N → J tS mX7_forms d 91 [some (.ref a0), some (.int x1), some (.int x2), some (.int y67), some (.int y83), some (.int i5n91)] [] V 0 0 (fun r V => (jPost [.inr 5, .inl 40, .inl 23, .inl 17, .inl 18, .inl 19, .inl 20, .inl 41, .inl 26, .inl 46, .inl 24, .inl 25, .inl 21, .inl 27] V0 (fun r _ => ∃ y : Int32, r = some (.int y) ∧ ((-2147483648) ≤ y.toInt) ∧ (y.toInt ≤ 2147483647))) r V ∧ jRM V a0 ∧ jkc 5 [0, 23, 24] V0 V) := by
              intro N
              induction N with
              | zero => intro V i5n91 hW he ha0 hkp hct hi5 hm; exact absurd hm (Nat.not_lt_zero _)
              | succ N ih =>
                intro V i5n91 hW he ha0 hkp hct hi5 hm
                have ih91 := ih
                have hri5 := j_rng i5n91
                refine J_iload dX7_forms_91 rfl ?_
                refine J_iload dX7_forms_93 rfl ?_
                refine Jz_icmp_ge (tgt := 142) jEq.rf hz83 dX7_forms_95 (by decide) (fun c95 => ?_) (fun c95 => ?_)
                · refine J_aload_n dX7_forms_142 rfl ?_
                  obtain ⟨fs143, hO143, hK143⟩ := WT_obj hW id ha0
                  obtain ⟨w143, hF143, b143, rfl, hb143⟩ := hK143.2 18 (.inr (some (.inl 27))) rfl
                  refine J_get jf_X7_61 dX7_forms_143 hO143 hF143 ?_
                  refine J_iload_n dX7_forms_146 rfl ?_
                  obtain ⟨n147, f147, hA147, hN147, hM147, hv147⟩ := WT_arrI (r := (-2147483648, 2147483647)) hW id rfl hb143
                  obtain rfl := hM147 32 rfl
                  clear hN147 hM147
                  refine Jz_ialdw he67 dX7_forms_147 hA147 rfl (by omega) (by omega) (fun y147 => ?_)
                  exact J_ret (r := some (.int _)) dX7_forms_148 ⟨rfl, _, rfl, rfl⟩ (⟨⟨hW, he, ⟨_, rfl, (j_rng _).1, (j_rng _).2⟩⟩, hct, hkp⟩)
                · refine J_aload_n dX7_forms_98 rfl ?_
                  refine J_iload_n dX7_forms_99 rfl ?_
                  refine J_iload_n dX7_forms_100 rfl ?_
                  refine J_iload dX7_forms_101 rfl ?_
                  obtain ⟨fs103p22, hO103p22, hK103p22⟩ := WT_obj hW id ha0
                  obtain ⟨w103p22, hF103p22, y103p22, rfl, hl103p22, hh103p22⟩ := hK103p22.2 22 (.inl ((-2147483648), 2147483647)) rfl
                  dsimp only at hl103p22 hh103p22
                  obtain ⟨w103p4, hF103p4, b103p4, rfl, hb103p4⟩ := hK103p22.2 4 (.inr (some (.inl 17))) rfl
                  refine Jw_callV3 (q9 := (RX7, TX7, 34)) moX7_rowOf jw_ml_X7_198 jw_im_X7_rowOf jw_se_X7_rowOf ha0 rfl rfl dX7_forms_103 (w_X7_rowOf (d - 1) _ a0 x1 x2 i5n91 y103p22 b103p4 (by omega) hW  ha0 ⟨_, hO103p22, hF103p22⟩ ⟨_, hO103p22, hF103p4⟩ (by omega) (by omega) (by omega)) (by omega) (Nat.zero_le _) (Nat.zero_le _) (Nat.le_of_ble_eq_true rfl) (fun r103 V103 h103 => ?_)
                  obtain ⟨h103, hX103_0, hX103_1, ⟨fv103_0, hfv103_0, hfp103_0⟩, ⟨fv103_1, hfv103_1, hfp103_1⟩⟩ := h103
                  obtain ⟨hW, hx103, hr103⟩ := h103
                  have he := he.trans (hx103.sub (jsub_of rfl))
                  have hkp := hkp.trans hX103_1
                  have hct := hct.keep hx103 (jdis_of rfl)
                  have ha0 := ha0.mono hx103.1
                  have hb103p4 := hb103p4.mono hx103.1
                  obtain ⟨fs103a0, hOfs103a0, hRfs103a0⟩ := hx103.1.keep hO103p22
                  have hKfs103a0 : jokO _ (jFs 5) fs103a0 := hW _ _ id hOfs103a0
                  have hFfs103a0_4 := hRfs103a0 _ _ hF103p4
                  cases hr103
                  have hFv103_0 := hfv103_0.get hOfs103a0
                  have hzf103_0 : jEq fv103_0.toInt ((x2.toInt)) := hfp103_0
                  clear hfp103_0
                  have hFv103_1 := hfv103_1.get hOfs103a0
                  have hzf103_1 : jEq fv103_1.toInt ((y103p22.toInt)) := hfp103_1
                  clear hfp103_1
                  refine J_aload_n dX7_forms_106 rfl ?_
                  obtain ⟨w107, hF107, b107, rfl, hb107⟩ := hKfs103a0.2 18 (.inr (some (.inl 27))) rfl
                  refine J_get jf_X7_61 dX7_forms_107 hOfs103a0 hF107 ?_
                  refine J_iload_n dX7_forms_110 rfl ?_
                  refine J_dup2 dX7_forms_111 rfl rfl ?_
                  obtain ⟨n112, f112, hA112, hN112, hM112, hv112⟩ := WT_arrI (r := (-2147483648, 2147483647)) hW id rfl hb107
                  obtain rfl := hM112 32 rfl
                  clear hN112 hM112
                  refine Jz_ialdw he67 dX7_forms_112 hA112 rfl (by omega) (by omega) (fun y112 => ?_)
                  refine J_aload_n dX7_forms_113 rfl ?_
                  refine J_iload_n dX7_forms_114 rfl ?_
                  refine Jw_callV1 (q9 := (RX7, TX7, 34)) moX7_goes jw_ml_X7_122 jw_im_X7_goes jw_se_X7_goes ha0 rfl rfl dX7_forms_115 (w_X7_goes (d - 1) _ a0 x1 (by omega) hW  ha0) (by omega) (Nat.zero_le _) (Nat.zero_le _) (Nat.le_of_ble_eq_true rfl) (fun r115 V115 h115 => ?_)
                  obtain ⟨hW, hx115, hr115⟩ := h115
                  have he := he.trans (hx115.sub (jsub_of rfl))
                  have hkp := hkp.trans (jkc.of hx115 (jnot_of rfl))
                  have hct := hct.keep hx115 (jdis_of rfl)
                  have ha0 := ha0.mono hx115.1
                  have hb103p4 := hb103p4.mono hx115.1
                  have hb107 := hb107.mono hx115.1
                  have hOfs103a0 := hx115.2 _ _ hOfs103a0 (jnot_of rfl)
                  have hKfs103a0 := hKfs103a0.mono hx115.1
                  have hA112 := hx115.2 _ _ hA112 (jnot_of rfl)
                  obtain ⟨y115, rfl, hl115, hh115⟩ := hr115
                  have K134 : ∀ (V : jH) (t0k134 : Int32), WT V → jeff [.inr 5, .inl 40, .inl 23, .inl 17, .inl 18, .inl 19, .inl 20, .inl 41, .inl 26, .inl 46, .inl 24, .inl 25, .inl 21, .inl 27] V0 V → jis V (.inr 5) a0 → jis V (.inl 27) b107 → jkc 5 [0, 23, 24] V0 V → jRM V a0 → J tS mX7_forms d 134 [some (.ref a0), some (.int x1), some (.int x2), some (.int y67), some (.int y83), some (.int i5n91)] [.int t0k134, .int y112, .int y67, .ref b107] V 0 0 (fun r V => (jPost [.inr 5, .inl 40, .inl 23, .inl 17, .inl 18, .inl 19, .inl 20, .inl 41, .inl 26, .inl 46, .inl 24, .inl 25, .inl 21, .inl 27] V0 (fun r _ => ∃ y : Int32, r = some (.int y) ∧ ((-2147483648) ≤ y.toInt) ∧ (y.toInt ≤ 2147483647))) r V ∧ jRM V a0 ∧ jkc 5 [0, 23, 24] V0 V) := by
                    intro V t0k134 hW he ha0 hb107 hkp hct 
                    refine Jz_iaddw dX7_forms_134 (fun y134  => ?_)
                    obtain ⟨n135, f135, hA135, hN135, hM135, hv135⟩ := WT_arrI (r := (-2147483648, 2147483647)) hW id rfl hb107
                    obtain rfl := hM135 32 rfl
                    clear hN135 hM135
                    refine Jz_iastw (r := ((-2147483648), 2147483647)) he67 jEq.rf hW id dX7_forms_135 hA135 rfl rfl (by omega) (by omega) (j_rng _).1 (j_rng _).2 (fun V135 hW hx135 => ?_)
                    have he := he.trans (hx135.sub (jsub_of rfl))
                    have hkp := hkp.trans (jkc.of hx135 (jnot_of rfl))
                    have hct := hct.keep hx135 (jdis_of rfl)
                    have ha0 := ha0.mono hx135.1
                    refine Jz_iinc 1 dX7_forms_136 rfl rfl (by decide) jEq.rf (by decide) (by omega) (by omega) (fun y136 he136 => ?_)
                    refine J_goto (tgt := 91) dX7_forms_139 (by decide) ?_
                    refine J.mask [true, true, true, true, true, true] ?_
                    exact ih91 _ y136 hW he ha0 hkp hct (by (try simp only [he136.eq, true_and, and_true]) <;> omega) (by (try simp only [he136.eq, true_and, and_true]) <;> omega)
                  refine Jz_if_eq (tgt := 133) jEq.rf dX7_forms_118 (by decide) (fun c118 => ?_) (fun c118 => ?_)
                  · refine Jz_iconst 0 dX7_forms_133 (by decide) (fun y133 he133 => ?_)
                    exact K134 _ y133 hW he ha0 hb107 hkp hct 
                  · refine J_aload_n dX7_forms_121 rfl ?_
                    refine J_iload_n dX7_forms_122 rfl ?_
                    refine Jw_callV1 (q9 := (RX7, TX7, 34)) moX7_isForm jw_ml_X7_202 jw_im_X7_isForm jw_se_X7_isForm ha0 rfl rfl dX7_forms_123 (w_X7_isForm (d - 1) _ a0 x1 fv103_0 (by omega) hW  ha0 ⟨_, hOfs103a0, hFv103_0⟩ (by (try simp only [hzf103_0.eq, true_and, and_true]) <;> omega)) (by omega) (Nat.zero_le _) (Nat.zero_le _) (Nat.le_of_ble_eq_true rfl) (fun r123 V123 h123 => ?_)
                    obtain ⟨hW, hx123, hr123⟩ := h123
                    have he := he.trans (hx123.sub (jsub_of rfl))
                    have hkp := hkp.trans (jkc.of hx123 (jnot_of rfl))
                    have hct := hct.keep hx123 (jdis_of rfl)
                    have ha0 := ha0.mono hx123.1
                    have hb103p4 := hb103p4.mono hx123.1
                    have hb107 := hb107.mono hx123.1
                    have hOfs103a0 := hx123.2 _ _ hOfs103a0 (jnot_of rfl)
                    have hKfs103a0 := hKfs103a0.mono hx123.1
                    have hA112 := hx123.2 _ _ hA112 (jnot_of rfl)
                    obtain ⟨y123, rfl, hl123, hh123⟩ := hr123
                    refine Jz_if_eq (tgt := 133) jEq.rf dX7_forms_126 (by decide) (fun c126 => ?_) (fun c126 => ?_)
                    · refine Jz_iconst 0 dX7_forms_133 (by decide) (fun y133 he133 => ?_)
                      exact K134 _ y133 hW he ha0 hb107 hkp hct 
                    · refine Jz_iconst 1 dX7_forms_129 (by decide) (fun y129 he129 => ?_)
                      refine J_goto (tgt := 134) dX7_forms_130 (by decide) ?_
                      exact K134 _ y129 hW he ha0 hb107 hkp hct 
            refine J.mask [true, true, true, true, true, true] ?_
            exact L91 _ _ y88 hW he ha0 hkp hct (by (try simp only [he88.eq, true_and, and_true]) <;> omega) (Nat.lt_succ_self _)
        · refine Jz_bipush (-5) dX7_forms_59 (by decide) (fun y59 he59 => ?_)
          exact J_ret (r := some (.int _)) dX7_forms_61 ⟨rfl, _, rfl, rfl⟩ (⟨⟨hW, he, ⟨_, rfl, (j_rng _).1, (j_rng _).2⟩⟩, hct, hkp⟩)
    · have q14_1 := hI11_1.of (by omega)
      try simp only [he8.eq, he9.eq] at q14_1
      refine Jz_bipush (-2) dX7_forms_17 (by decide) (fun y17 he17 => ?_)
      exact J_ret (r := some (.int _)) dX7_forms_19 ⟨rfl, _, rfl, rfl⟩ (⟨⟨hW, he, ⟨_, rfl, (j_rng _).1, (j_rng _).2⟩⟩, hct, hkp⟩)
set_option maxRecDepth 100000 in
set_option maxHeartbeats 4000000 in
theorem w_X6_forms_kold {tS : jTS} (d : Nat) (V0 : jH) (a0 : Nat) (x1 : Int32) (x2 : Int32) (fs : List Value) (tl : Nat) (f : Nat → Option Nat) (A : Nat → jad) (hd : 28 ≤ d) (hW : WT V0) (ha0 : jis V0 (.inr 4) a0) (hx : V0 a0 = some (.inr (4, fs))) (h5 : fs[5]? = some (.ref tl)) (htl : V0 tl = some (.inl (5, 4, .inr (.inr (.inr (.inr f)))))) (ho : ∀ j, x1 = nI j → j < 4 → ∃ t, f j = some t) (hb1 : ¬ x1 < 0) (hb2 : ¬ Int32.ofNat 4 ≤ x1) (hb3 : ¬ x2 < 0) (hb4 : x2 ≤ 20) (hty4 : ∀ j : Nat, j < 4 → f j = none ∨ ∃ t : Nat, f j = some t ∧ jty V0 t (A j) (j : Int)) (hA5 : ∀ i j : Nat, i < 4 → j < 4 → i ≠ j → f i ≠ none → f j ≠ none → jsp (A i) (A j)) (hx20 : 0 ≤ x2.toInt) (hx2h : x2.toInt ≤ 20) : jTot tS mX6_forms d [.ref a0, .int x1, .int x2] V0 0 0 (fun r V => (fun r V => (jPost [.inr 2, .inl 1, .inl 2, .inl 8, .inl 37, .inl 38, .inr 1, .inl 6, .inl 34, .inl 35, .inl 36, .inl 13] V0 rN) r V ∧ jrt a0 V0 V) r V ∧ jTL V a0) := by
  refine jTot.of_J [some (.ref a0), some (.int x1), some (.int x2), none] moX6_forms (Nat.le_of_ble_eq_true rfl) rfl ?_
  have he : jeff [.inr 2, .inl 1, .inl 2, .inl 8, .inl 37, .inl 38, .inr 1, .inl 6, .inl 34, .inl 35, .inl 36, .inl 13] V0 V0 := jeff.refl _ _
  have hkp : jrt a0 V0 V0 := jrt.rf
  have hKx : jokO V0 (jFs 4) fs := hW _ _ id hx
  have htlk : jis V0 (.inl 5) tl := ⟨_, htl, rfl⟩
  have hN4 : (4 : Nat) < 2 ^ 31 := by decide
  have hvt : ∀ (j b : Nat), j < 4 → f j = some b → jis V0 (.inr 2) b := by
    obtain ⟨n9, f9, h91, h92, h93, h94⟩ := WT_arrR hW id rfl htlk
    cases htl.symm.trans h91
    exact h94
  have hx0 := hx
  have h50 := h5
  have htl0 := htl
  have hjt : jTL V0 a0 := ⟨fs, tl, f, A, hx, h5, htl, hty4, hA5⟩
  refine J_aload_n dX6_forms_0 rfl ?_
  refine J_iload_n dX6_forms_1 rfl ?_
  refine J_iload_n dX6_forms_2 rfl ?_
  refine J_iconst (v := 0) dX6_forms_3 (by decide) ?_
  refine Jw_callV3 (q9 := (RX6, TX6, 7)) moX6_tallyFor jw_ml_X6_149 jw_im_X6_tallyFor jw_se_X6_tallyFor ha0 rfl rfl dX6_forms_4 (w_X6_tallyFor_old (d - 1) _ _ _ _ _ fs tl f (by omega) hW ha0 hx h5 htl ho hb1 hb2 hb3 hb4) (by omega) (Nat.zero_le _) (Nat.zero_le _) (Nat.le_of_ble_eq_true rfl) (fun r4 V4 h4 => ?_)
  obtain ⟨hr4, hE4⟩ := h4
  have hE4 := hE4.symm
  subst hE4
  obtain ⟨j, t, hj, hg, ht, rfl⟩ := hr4
  · have hbt : jis V0 (.inr 2) t := hvt j t hj ht
    have hgj : x1.toInt = (j : Int) := by rw [hg]; exact nI_toInt (by omega)
    have hty : jty V0 t (A j) (j : Int) := (hty4 j hj).elim (fun q => by rw [q] at ht; cases ht) (fun ⟨t2, q1, q2⟩ => by cases q1.symm.trans ht; exact q2)
    obtain ⟨gv, R, sd, cd, tg, sp, ln, TK, WC, SQ, RC, BC, ⟨e1, e2, e3, e4⟩, ⟨⟨ts, hT, hF0⟩, i1, i2, i3, i4, i5⟩, ⟨r3, r4, r5, r6, r7⟩, ⟨d3, d4, d5, d6, d7⟩, htk, htal⟩ := id hty
    rw [← e1] at e2 e3 e4 htk htal
    have hF1 := i1.get hT
    have hF2 := i2.get hT
    have hF11 := i3.get hT
    have hF12 := i4.get hT
    have hF13 := i5.get hT
    have hF3 := r3.get hT
    have hF4 := r4.get hT
    have hF5 := r5.get hT
    have hF6 := r6.get hT
    have hF7 := r7.get hT
    have hKt : jokO V0 (jFs 2) ts := hW _ _ id hT
    have hbq3 : jis V0 (.inl 2) _ := ⟨_, d3, rfl⟩
    have hbq4 : jis V0 (.inl 8) _ := ⟨_, d4, rfl⟩
    have hbq5 : jis V0 (.inl 1) _ := ⟨_, d5, rfl⟩
    have hbq6 : jis V0 (.inl 37) _ := ⟨_, d6, rfl⟩
    have hbq7 : jis V0 (.inl 38) _ := ⟨_, d7, rfl⟩
    have hgq0 : 0 ≤ gv.toInt := by omega
    have hgq3 : gv.toInt ≤ 3 := by omega
    refine J_astore_n dX6_forms_7 rfl (by decide) ?_
    refine J_aload_n dX6_forms_8 rfl ?_
    refine J_ifnull dX6_forms_9 ?_
    refine J_iload_n dX6_forms_12 rfl ?_
    refine J_bipush (v := 7) dX6_forms_13 (by decide) ?_
    refine J_icmp_le (tgt := 21) dX6_forms_15 (by decide) (fun c15 => ?_) (fun c15 => ?_)
    · refine J_aload_n dX6_forms_21 rfl ?_
      refine J_iload_n dX6_forms_22 rfl ?_
      refine Jw_callV1 (q9 := (RX4, TX4, 14)) moX4_holds jw_ml_X6_153 jw_im_X4_holds jw_se_X4_holds hbt rfl rfl dX6_forms_23 (w_X4_holds_z (d - 1) _ t x2 gv R sd cd tg sp _ _ _ _ _ ln TK WC SQ RC BC (by omega) hW hbt ⟨_, hT, hF0⟩ i1 i2 i3 i4 i5 r3 r4 r5 r6 r7 d3 d4 d5 d6 d7 hgq0 hgq3 e2 e3 e4 hx20 hx2h htk htal) (by omega) (Nat.zero_le _) (Nat.zero_le _) (Nat.le_of_ble_eq_true rfl) (fun r23 V23 h23 => ?_)
      obtain ⟨⟨hW, hx23, y23, rfl, hl23, hh23, -⟩, -, hX23_1, -, hX23_3, -, -, -⟩ := h23
      rw [e1] at hX23_1
      have hkp := hkp.trans he.1 (jrt.of hx23 (jdis_of rfl))
      have he := he.trans (hx23.sub (jsub_of rfl))
      have ha0 := ha0.mono hx23.1
      have htlk := htlk.mono hx23.1
      have hbt := hbt.mono hx23.1
      have hx := hx23.2 _ _ hx (jnot_of rfl)
      have hKx := hKx.mono hx23.1
      have htl := hx23.2 _ _ htl (jnot_of rfl)
      have hjt : jTL V23 a0 := jTL.upd hx0 h50 htl0 hty4 hA5 he (jnot_of rfl) hj ht hty hX23_1 (fun b hb e q _ => (hX23_3 b hb).trans q)
      · refine J_if_eq (tgt := 43) dX6_forms_26 (by decide) (fun c26 => ?_) (fun c26 => ?_)
        · refine J_bipush (v := -5) dX6_forms_43 (by decide) ?_
          exact J_ret (r := some (.int _)) dX6_forms_45 ⟨rfl, _, rfl, rfl⟩ (⟨⟨⟨hW, he, rN_of _⟩, hkp⟩, hjt⟩)
        · refine J_aload_n dX6_forms_29 rfl ?_
          obtain ⟨fs30, hO30, hK30⟩ := WT_obj hW id hbt
          obtain ⟨w30, hF30, b30, rfl, hb30⟩ := hK30.2 4 (.inr (some (.inl 8))) rfl
          refine J_get jf_X6_156 dX6_forms_30 hO30 hF30 ?_
          refine J_iload_n dX6_forms_33 rfl ?_
          refine J_callS2 moX6_cell jw_ml_X6_110 jw_st_X6_cell dX6_forms_34 (w_X6_cell (d - 1) _ _ _ hW hb30 rfl rfl) (by omega) (Nat.zero_le _) (Nat.zero_le _) (Nat.le_of_ble_eq_true rfl) (fun r34 V34 h34 => ?_)
          obtain ⟨⟨y34, rfl, hl34, hh34⟩, hE34⟩ := h34
          have hE34 := hE34.symm
          subst hE34
          refine J_sipush (v := 3000) dX6_forms_37 (by decide) ?_
          refine J_icmp_le (tgt := 46) dX6_forms_40 (by decide) (fun c40 => ?_) (fun c40 => ?_)
          · refine J_aload_n dX6_forms_46 rfl ?_
            obtain ⟨w47, hF47, b47, rfl, hb47⟩ := hK30.2 8 (.inr (some (.inl 13))) rfl
            refine J_get jf_X6_176 dX6_forms_47 hO30 hF47 ?_
            refine J_iload_n dX6_forms_50 rfl ?_
            refine J_callS2 moX6_cell jw_ml_X6_110 jw_st_X6_cell dX6_forms_51 (w_X6_cell (d - 1) _ _ _ hW hb47 rfl rfl) (by omega) (Nat.zero_le _) (Nat.zero_le _) (Nat.le_of_ble_eq_true rfl) (fun r51 V51 h51 => ?_)
            obtain ⟨⟨y51, rfl, hl51, hh51⟩, hE51⟩ := h51
            have hE51 := hE51.symm
            subst hE51
            refine J_iconst (v := -1) dX6_forms_54 (by decide) ?_
            refine J_icmp_ne (tgt := 83) dX6_forms_55 (by decide) (fun c55 => ?_) (fun c55 => ?_)
            · refine J_aload_n dX6_forms_83 rfl ?_
              refine J_get jf_X6_176 dX6_forms_84 hO30 hF47 ?_
              refine J_iload_n dX6_forms_87 rfl ?_
              refine J_callS2 moX6_cell jw_ml_X6_110 jw_st_X6_cell dX6_forms_88 (w_X6_cell (d - 1) _ _ _ hW hb47 rfl rfl) (by omega) (Nat.zero_le _) (Nat.zero_le _) (Nat.le_of_ble_eq_true rfl) (fun r88 V88 h88 => ?_)
              obtain ⟨⟨y88, rfl, hl88, hh88⟩, hE88⟩ := h88
              have hE88 := hE88.symm
              subst hE88
              exact J_ret (r := some (.int _)) dX6_forms_91 ⟨rfl, _, rfl, rfl⟩ (⟨⟨⟨hW, he, rN_of _⟩, hkp⟩, hjt⟩)
            · refine J_aload_n dX6_forms_58 rfl ?_
              obtain ⟨w59, hF59, b59, rfl, hb59⟩ := hKx.2 2 (.inr (some (.inr 1))) rfl
              refine J_get jf_X6_22 dX6_forms_59 hx hF59 ?_
              refine J_iload_n dX6_forms_62 rfl ?_
              refine Jw_callV1 (q9 := (RX3, TX3, 7)) moX3_begin jw_ml_X6_52 jw_im_X3_begin jw_se_X3_begin hb59 rfl rfl dX6_forms_63 (w_X3_begin_rk0 (d - 1) _ _ _ (by omega) hW hb59 ) (by omega) (Nat.zero_le _) (Nat.zero_le _) (Nat.le_of_ble_eq_true rfl) (fun r63 V63 h63 => ?_)
              obtain ⟨⟨hW, hx63, hr63⟩, hk63⟩ := h63
              have hkp := hkp.trans he.1 (jrt.call hx hF59 hk63)
              have he := he.trans (hx63.sub (jsub_of rfl))
              have ha0 := ha0.mono hx63.1
              have htlk := htlk.mono hx63.1
              have hbt := hbt.mono hx63.1
              have hb30 := hb30.mono hx63.1
              have hb47 := hb47.mono hx63.1
              have hb59 := hb59.mono hx63.1
              have hx := hx63.2 _ _ hx (jnot_of rfl)
              have hKx := hKx.mono hx63.1
              have hO30 := hx63.2 _ _ hO30 (jnot_of rfl)
              have hK30 := hK30.mono hx63.1
              have hjt := hjt.keep hx63 (jdis_of rfl)
              have htl := hx63.2 _ _ htl (jnot_of rfl)
              cases hr63
              · refine J_aload_n dX6_forms_66 rfl ?_
                refine J_get jf_X6_176 dX6_forms_67 hO30 hF47 ?_
                refine J_iload_n dX6_forms_70 rfl ?_
                refine J_aload_n dX6_forms_71 rfl ?_
                refine J_get jf_X6_22 dX6_forms_72 hx hF59 ?_
                refine J_iload_n dX6_forms_75 rfl ?_
                refine J_iconst (v := 0) dX6_forms_76 (by decide) ?_
                refine J_callSN3 moX1_countForms (host := "WalkGrounds") (List.mem_of_getElem? (i := 5) rfl) jw_st_X1_countForms dX6_forms_77 (w_X1_countForms 9 (d - 1) _ _ _ _ (by omega) hW hb59 (by decide) (by decide) (by decide)) (by omega) (Nat.zero_le _) (Nat.zero_le _) (Nat.le_of_ble_eq_true rfl) (fun r77 V77 h77 => ?_)
                obtain ⟨⟨hW, hx77, hr77⟩, hk77⟩ := h77
                have hkp := hkp.trans he.1 (jrt.call hx hF59 hk77)
                have he := he.trans (hx77.sub (jsub_of rfl))
                have ha0 := ha0.mono hx77.1
                have htlk := htlk.mono hx77.1
                have hbt := hbt.mono hx77.1
                have hb30 := hb30.mono hx77.1
                have hb47 := hb47.mono hx77.1
                have hb59 := hb59.mono hx77.1
                have hx := hx77.2 _ _ hx (jnot_of rfl)
                have hKx := hKx.mono hx77.1
                have hO30 := hx77.2 _ _ hO30 (jnot_of rfl)
                have hK30 := hK30.mono hx77.1
                have hjt := hjt.keep hx77 (jdis_of rfl)
                have htl := hx77.2 _ _ htl (jnot_of rfl)
                obtain ⟨y77, rfl, hl77, hh77⟩ := hr77
                refine J_callS3 moX6_put jw_ml_X6_183 jw_st_X6_put dX6_forms_80 (w_X6_put (d - 1) _ _ _ _ hW hb47 rfl rfl) (by omega) (Nat.zero_le _) (Nat.zero_le _) (Nat.le_of_ble_eq_true rfl) (fun r80 V80 h80 => ?_)
                obtain ⟨hW, hx80, hr80⟩ := h80
                have hkp := hkp.trans he.1 (jrt.of hx80 (jdis_of rfl))
                have he := he.trans (hx80.sub (jsub_of rfl))
                have ha0 := ha0.mono hx80.1
                have htlk := htlk.mono hx80.1
                have hbt := hbt.mono hx80.1
                have hb30 := hb30.mono hx80.1
                have hb47 := hb47.mono hx80.1
                have hb59 := hb59.mono hx80.1
                have hx := hx80.2 _ _ hx (jnot_of rfl)
                have hKx := hKx.mono hx80.1
                have hO30 := hx80.2 _ _ hO30 (jnot_of rfl)
                have hK30 := hK30.mono hx80.1
                have hjt := hjt.keep hx80 (jdis_of rfl)
                have htl := hx80.2 _ _ htl (jnot_of rfl)
                cases hr80
                refine J_aload_n dX6_forms_83 rfl ?_
                refine J_get jf_X6_176 dX6_forms_84 hO30 hF47 ?_
                refine J_iload_n dX6_forms_87 rfl ?_
                refine J_callS2 moX6_cell jw_ml_X6_110 jw_st_X6_cell dX6_forms_88 (w_X6_cell (d - 1) _ _ _ hW hb47 rfl rfl) (by omega) (Nat.zero_le _) (Nat.zero_le _) (Nat.le_of_ble_eq_true rfl) (fun r88 V88 h88 => ?_)
                obtain ⟨⟨y88, rfl, hl88, hh88⟩, hE88⟩ := h88
                have hE88 := hE88.symm
                subst hE88
                exact J_ret (r := some (.int _)) dX6_forms_91 ⟨rfl, _, rfl, rfl⟩ (⟨⟨⟨hW, he, rN_of _⟩, hkp⟩, hjt⟩)
          · refine J_bipush (v := -5) dX6_forms_43 (by decide) ?_
            exact J_ret (r := some (.int _)) dX6_forms_45 ⟨rfl, _, rfl, rfl⟩ (⟨⟨⟨hW, he, rN_of _⟩, hkp⟩, hjt⟩)
    · refine J_bipush (v := -2) dX6_forms_18 (by decide) ?_
      exact J_ret (r := some (.int _)) dX6_forms_20 ⟨rfl, _, rfl, rfl⟩ (⟨⟨⟨hW, he, rN_of _⟩, hkp⟩, hjt⟩)
set_option maxRecDepth 100000 in
set_option maxHeartbeats 4000000 in
theorem w_X6_forms_knew {tS : jTS} (d : Nat) (V0 : jH) (a0 : Nat) (x1 : Int32) (x2 : Int32) (fs : List Value) (tl : Nat) (f : Nat → Option Nat) (j : Nat) (A : Nat → jad) (hd : 28 ≤ d) (hW : WT V0) (ha0 : jis V0 (.inr 4) a0) (hx : V0 a0 = some (.inr (4, fs))) (h5 : fs[5]? = some (.ref tl)) (htl : V0 tl = some (.inl (5, 4, .inr (.inr (.inr (.inr f)))))) (hg : x1 = nI j) (hj : j < 4) (hf : f j = none) (hb1 : ¬ x1 < 0) (hb2 : ¬ Int32.ofNat 4 ≤ x1) (hb3 : ¬ x2 < 0) (hb4 : x2 ≤ 20) (hty4 : ∀ j : Nat, j < 4 → f j = none ∨ ∃ t : Nat, f j = some t ∧ jty V0 t (A j) (j : Int)) (hA5 : ∀ i j : Nat, i < 4 → j < 4 → i ≠ j → f i ≠ none → f j ≠ none → jsp (A i) (A j)) (hx20 : 0 ≤ x2.toInt) (hx2h : x2.toInt ≤ 20) : jTot tS mX6_forms d [.ref a0, .int x1, .int x2] V0 8 15738 (fun r V => (fun r V => (fun r V => WT V ∧ jeff [.inl 5, .inr 2, .inl 1, .inl 2, .inl 8, .inl 37, .inl 38, .inr 1, .inl 6, .inl 34, .inl 35, .inl 36, .inl 13] V0 V ∧ rN r V ∧ ∃ f2 : Nat → Option Nat, V tl = some (.inl (5, 4, .inr (.inr (.inr (.inr f2))))) ∧ (∀ i, i ≠ j → f2 i = f i) ∧ ∃ t, f2 j = some t) r V ∧ jrt a0 V0 V) r V ∧ jTL V a0) := by
  refine jTot.of_J [some (.ref a0), some (.int x1), some (.int x2), none] moX6_forms (Nat.le_of_ble_eq_true rfl) rfl ?_
  have he : jeff [.inl 5, .inr 2, .inl 1, .inl 2, .inl 8, .inl 37, .inl 38, .inr 1, .inl 6, .inl 34, .inl 35, .inl 36, .inl 13] V0 V0 := jeff.refl _ _
  have hkp : jrt a0 V0 V0 := jrt.rf
  have hKx : jokO V0 (jFs 4) fs := hW _ _ id hx
  have htlk : jis V0 (.inl 5) tl := ⟨_, htl, rfl⟩
  have hN4 : (4 : Nat) < 2 ^ 31 := by decide
  have hvt : ∀ (j b : Nat), j < 4 → f j = some b → jis V0 (.inr 2) b := by
    obtain ⟨n9, f9, h91, h92, h93, h94⟩ := WT_arrR hW id rfl htlk
    cases htl.symm.trans h91
    exact h94
  have hx0 := hx
  have h50 := h5
  have htl0 := htl
  have hjt : jTL V0 a0 := ⟨fs, tl, f, A, hx, h5, htl, hty4, hA5⟩
  have hgj : x1.toInt = (j : Int) := by rw [hg]; exact nI_toInt (by omega)
  refine J_aload_n dX6_forms_0 rfl ?_
  refine J_iload_n dX6_forms_1 rfl ?_
  refine J_iload_n dX6_forms_2 rfl ?_
  refine J_iconst (v := 0) dX6_forms_3 (by decide) ?_
  refine Jw_callV3 (q9 := (RX6, TX6, 7)) moX6_tallyFor jw_ml_X6_149 jw_im_X6_tallyFor jw_se_X6_tallyFor ha0 rfl rfl dX6_forms_4 (w_X6_tallyFor_newz (d - 1) _ _ _ _ _ fs tl f j (by omega) hW ha0 hx h5 htl hg hj hf hb1 hb2 hb3 hb4) (by omega) (by omega) (by omega) (Nat.le_of_ble_eq_true rfl) (fun r4 V4 h4 => ?_)
  obtain ⟨t, rfl, hW, hx4, hbt, htl2, hjm⟩ := h4
  · have hkp := hkp.trans he.1 (jrt.of hx4 (jdis_of rfl))
    have he := he.trans (hx4.sub (jsub_of rfl))
    have ha0 := ha0.mono hx4.1
    obtain ⟨P, hnew, hty, hnf, hfa⟩ := hjm
    obtain ⟨gv, R, sd, cd, tg, sp, ln, TK, WC, SQ, RC, BC, ⟨e1, e2, e3, e4⟩, ⟨⟨ts, hT, hF0⟩, i1, i2, i3, i4, i5⟩, ⟨r3, r4, r5, r6, r7⟩, ⟨d3, d4, d5, d6, d7⟩, htk, htal⟩ := id hty
    rw [← e1] at e2 e3 e4 htk htal
    have hF1 := i1.get hT
    have hF2 := i2.get hT
    have hF11 := i3.get hT
    have hF12 := i4.get hT
    have hF13 := i5.get hT
    have hF3 := r3.get hT
    have hF4 := r4.get hT
    have hF5 := r5.get hT
    have hF6 := r6.get hT
    have hF7 := r7.get hT
    have hKt : jokO V4 (jFs 2) ts := hW _ _ id hT
    have hbq3 : jis V4 (.inl 2) _ := ⟨_, d3, rfl⟩
    have hbq4 : jis V4 (.inl 8) _ := ⟨_, d4, rfl⟩
    have hbq5 : jis V4 (.inl 1) _ := ⟨_, d5, rfl⟩
    have hbq6 : jis V4 (.inl 37) _ := ⟨_, d6, rfl⟩
    have hbq7 : jis V4 (.inl 38) _ := ⟨_, d7, rfl⟩
    have hgq0 : 0 ≤ gv.toInt := by omega
    have hgq3 : gv.toInt ≤ 3 := by omega
    have hjt : jTL V4 a0 := jTL.fresh hx0 h50 hty4 hA5 he.1 htl2 hj hf (va_up_self _ _ _) (fun i hi => va_up_ne _ _ hi) hty hnew (jTL.frs ⟨_, htl0, rfl⟩ hnew hfa jfp.rf)
    refine J_astore_n dX6_forms_7 rfl (by decide) ?_
    refine J_aload_n dX6_forms_8 rfl ?_
    refine J_ifnull dX6_forms_9 ?_
    refine J_iload_n dX6_forms_12 rfl ?_
    refine J_bipush (v := 7) dX6_forms_13 (by decide) ?_
    refine J_icmp_le (tgt := 21) dX6_forms_15 (by decide) (fun c15 => ?_) (fun c15 => ?_)
    · refine J_aload_n dX6_forms_21 rfl ?_
      refine J_iload_n dX6_forms_22 rfl ?_
      refine Jw_callV1 (q9 := (RX4, TX4, 14)) moX4_holds jw_ml_X6_153 jw_im_X4_holds jw_se_X4_holds hbt rfl rfl dX6_forms_23 (w_X4_holds_z (d - 1) _ t x2 gv R sd cd tg sp _ _ _ _ _ ln TK WC SQ RC BC (by omega) hW hbt ⟨_, hT, hF0⟩ i1 i2 i3 i4 i5 r3 r4 r5 r6 r7 d3 d4 d5 d6 d7 hgq0 hgq3 e2 e3 e4 hx20 hx2h htk htal) (by omega) (Nat.zero_le _) (Nat.zero_le _) (Nat.le_of_ble_eq_true rfl) (fun r23 V23 h23 => ?_)
      obtain ⟨⟨hW, hx23, y23, rfl, hl23, hh23, -⟩, -, hX23_1, -, hX23_3, -, -, -⟩ := h23
      rw [e1] at hX23_1
      have hkp := hkp.trans he.1 (jrt.of hx23 (jdis_of rfl))
      have he := he.trans (hx23.sub (jsub_of rfl))
      have ha0 := ha0.mono hx23.1
      have hbt := hbt.mono hx23.1
      have htl2 := hx23.2 _ _ htl2 (jnot_of rfl)
      have hjt : jTL V23 a0 := jTL.fresh hx0 h50 hty4 hA5 he.1 htl2 hj hf (va_up_self _ _ _) (fun i hi => va_up_ne _ _ hi) hX23_1 hnew (jTL.frs ⟨_, htl0, rfl⟩ hnew hfa hX23_3)
      · refine J_if_eq (tgt := 43) dX6_forms_26 (by decide) (fun c26 => ?_) (fun c26 => ?_)
        · refine J_bipush (v := -5) dX6_forms_43 (by decide) ?_
          exact J_ret (r := some (.int _)) dX6_forms_45 ⟨rfl, _, rfl, rfl⟩ (⟨⟨⟨hW, he, rN_of _, ⟨_, htl2, fun i hi => va_up_ne _ _ hi, _, va_up_self _ _ _⟩⟩, hkp⟩, hjt⟩)
        · refine J_aload_n dX6_forms_29 rfl ?_
          obtain ⟨fs30, hO30, hK30⟩ := WT_obj hW id hbt
          obtain ⟨w30, hF30, b30, rfl, hb30⟩ := hK30.2 4 (.inr (some (.inl 8))) rfl
          refine J_get jf_X6_156 dX6_forms_30 hO30 hF30 ?_
          refine J_iload_n dX6_forms_33 rfl ?_
          refine J_callS2 moX6_cell jw_ml_X6_110 jw_st_X6_cell dX6_forms_34 (w_X6_cell (d - 1) _ _ _ hW hb30 rfl rfl) (by omega) (Nat.zero_le _) (Nat.zero_le _) (Nat.le_of_ble_eq_true rfl) (fun r34 V34 h34 => ?_)
          obtain ⟨⟨y34, rfl, hl34, hh34⟩, hE34⟩ := h34
          have hE34 := hE34.symm
          subst hE34
          refine J_sipush (v := 3000) dX6_forms_37 (by decide) ?_
          refine J_icmp_le (tgt := 46) dX6_forms_40 (by decide) (fun c40 => ?_) (fun c40 => ?_)
          · refine J_aload_n dX6_forms_46 rfl ?_
            obtain ⟨w47, hF47, b47, rfl, hb47⟩ := hK30.2 8 (.inr (some (.inl 13))) rfl
            refine J_get jf_X6_176 dX6_forms_47 hO30 hF47 ?_
            refine J_iload_n dX6_forms_50 rfl ?_
            refine J_callS2 moX6_cell jw_ml_X6_110 jw_st_X6_cell dX6_forms_51 (w_X6_cell (d - 1) _ _ _ hW hb47 rfl rfl) (by omega) (Nat.zero_le _) (Nat.zero_le _) (Nat.le_of_ble_eq_true rfl) (fun r51 V51 h51 => ?_)
            obtain ⟨⟨y51, rfl, hl51, hh51⟩, hE51⟩ := h51
            have hE51 := hE51.symm
            subst hE51
            refine J_iconst (v := -1) dX6_forms_54 (by decide) ?_
            refine J_icmp_ne (tgt := 83) dX6_forms_55 (by decide) (fun c55 => ?_) (fun c55 => ?_)
            · refine J_aload_n dX6_forms_83 rfl ?_
              refine J_get jf_X6_176 dX6_forms_84 hO30 hF47 ?_
              refine J_iload_n dX6_forms_87 rfl ?_
              refine J_callS2 moX6_cell jw_ml_X6_110 jw_st_X6_cell dX6_forms_88 (w_X6_cell (d - 1) _ _ _ hW hb47 rfl rfl) (by omega) (Nat.zero_le _) (Nat.zero_le _) (Nat.le_of_ble_eq_true rfl) (fun r88 V88 h88 => ?_)
              obtain ⟨⟨y88, rfl, hl88, hh88⟩, hE88⟩ := h88
              have hE88 := hE88.symm
              subst hE88
              exact J_ret (r := some (.int _)) dX6_forms_91 ⟨rfl, _, rfl, rfl⟩ (⟨⟨⟨hW, he, rN_of _, ⟨_, htl2, fun i hi => va_up_ne _ _ hi, _, va_up_self _ _ _⟩⟩, hkp⟩, hjt⟩)
            · refine J_aload_n dX6_forms_58 rfl ?_
              obtain ⟨fs59, hO59, hK59⟩ := WT_obj hW id ha0
              obtain ⟨w59, hF59, b59, rfl, hb59⟩ := hK59.2 2 (.inr (some (.inr 1))) rfl
              refine J_get jf_X6_22 dX6_forms_59 hO59 hF59 ?_
              refine J_iload_n dX6_forms_62 rfl ?_
              refine Jw_callV1 (q9 := (RX3, TX3, 7)) moX3_begin jw_ml_X6_52 jw_im_X3_begin jw_se_X3_begin hb59 rfl rfl dX6_forms_63 (w_X3_begin_rk0 (d - 1) _ _ _ (by omega) hW hb59 ) (by omega) (Nat.zero_le _) (Nat.zero_le _) (Nat.le_of_ble_eq_true rfl) (fun r63 V63 h63 => ?_)
              obtain ⟨⟨hW, hx63, hr63⟩, hk63⟩ := h63
              have hkp := hkp.trans he.1 (jrt.call hO59 hF59 hk63)
              have he := he.trans (hx63.sub (jsub_of rfl))
              have ha0 := ha0.mono hx63.1
              have hbt := hbt.mono hx63.1
              have hb30 := hb30.mono hx63.1
              have hb47 := hb47.mono hx63.1
              have hb59 := hb59.mono hx63.1
              have hO30 := hx63.2 _ _ hO30 (jnot_of rfl)
              have hK30 := hK30.mono hx63.1
              have hO59 := hx63.2 _ _ hO59 (jnot_of rfl)
              have hK59 := hK59.mono hx63.1
              have htl2 := hx63.2 _ _ htl2 (jnot_of rfl)
              have hjt := hjt.keep hx63 (jdis_of rfl)
              cases hr63
              · refine J_aload_n dX6_forms_66 rfl ?_
                refine J_get jf_X6_176 dX6_forms_67 hO30 hF47 ?_
                refine J_iload_n dX6_forms_70 rfl ?_
                refine J_aload_n dX6_forms_71 rfl ?_
                refine J_get jf_X6_22 dX6_forms_72 hO59 hF59 ?_
                refine J_iload_n dX6_forms_75 rfl ?_
                refine J_iconst (v := 0) dX6_forms_76 (by decide) ?_
                refine J_callSN3 moX1_countForms (host := "WalkGrounds") (List.mem_of_getElem? (i := 5) rfl) jw_st_X1_countForms dX6_forms_77 (w_X1_countForms 9 (d - 1) _ _ _ _ (by omega) hW hb59 (by decide) (by decide) (by decide)) (by omega) (Nat.zero_le _) (Nat.zero_le _) (Nat.le_of_ble_eq_true rfl) (fun r77 V77 h77 => ?_)
                obtain ⟨⟨hW, hx77, hr77⟩, hk77⟩ := h77
                have hkp := hkp.trans he.1 (jrt.call hO59 hF59 hk77)
                have he := he.trans (hx77.sub (jsub_of rfl))
                have ha0 := ha0.mono hx77.1
                have hbt := hbt.mono hx77.1
                have hb30 := hb30.mono hx77.1
                have hb47 := hb47.mono hx77.1
                have hb59 := hb59.mono hx77.1
                have hO30 := hx77.2 _ _ hO30 (jnot_of rfl)
                have hK30 := hK30.mono hx77.1
                have hO59 := hx77.2 _ _ hO59 (jnot_of rfl)
                have hK59 := hK59.mono hx77.1
                have htl2 := hx77.2 _ _ htl2 (jnot_of rfl)
                have hjt := hjt.keep hx77 (jdis_of rfl)
                obtain ⟨y77, rfl, hl77, hh77⟩ := hr77
                refine J_callS3 moX6_put jw_ml_X6_183 jw_st_X6_put dX6_forms_80 (w_X6_put (d - 1) _ _ _ _ hW hb47 rfl rfl) (by omega) (Nat.zero_le _) (Nat.zero_le _) (Nat.le_of_ble_eq_true rfl) (fun r80 V80 h80 => ?_)
                obtain ⟨hW, hx80, hr80⟩ := h80
                have hkp := hkp.trans he.1 (jrt.of hx80 (jdis_of rfl))
                have he := he.trans (hx80.sub (jsub_of rfl))
                have ha0 := ha0.mono hx80.1
                have hbt := hbt.mono hx80.1
                have hb30 := hb30.mono hx80.1
                have hb47 := hb47.mono hx80.1
                have hb59 := hb59.mono hx80.1
                have hO30 := hx80.2 _ _ hO30 (jnot_of rfl)
                have hK30 := hK30.mono hx80.1
                have hO59 := hx80.2 _ _ hO59 (jnot_of rfl)
                have hK59 := hK59.mono hx80.1
                have htl2 := hx80.2 _ _ htl2 (jnot_of rfl)
                have hjt := hjt.keep hx80 (jdis_of rfl)
                cases hr80
                refine J_aload_n dX6_forms_83 rfl ?_
                refine J_get jf_X6_176 dX6_forms_84 hO30 hF47 ?_
                refine J_iload_n dX6_forms_87 rfl ?_
                refine J_callS2 moX6_cell jw_ml_X6_110 jw_st_X6_cell dX6_forms_88 (w_X6_cell (d - 1) _ _ _ hW hb47 rfl rfl) (by omega) (Nat.zero_le _) (Nat.zero_le _) (Nat.le_of_ble_eq_true rfl) (fun r88 V88 h88 => ?_)
                obtain ⟨⟨y88, rfl, hl88, hh88⟩, hE88⟩ := h88
                have hE88 := hE88.symm
                subst hE88
                exact J_ret (r := some (.int _)) dX6_forms_91 ⟨rfl, _, rfl, rfl⟩ (⟨⟨⟨hW, he, rN_of _, ⟨_, htl2, fun i hi => va_up_ne _ _ hi, _, va_up_self _ _ _⟩⟩, hkp⟩, hjt⟩)
          · refine J_bipush (v := -5) dX6_forms_43 (by decide) ?_
            exact J_ret (r := some (.int _)) dX6_forms_45 ⟨rfl, _, rfl, rfl⟩ (⟨⟨⟨hW, he, rN_of _, ⟨_, htl2, fun i hi => va_up_ne _ _ hi, _, va_up_self _ _ _⟩⟩, hkp⟩, hjt⟩)
    · refine J_bipush (v := -2) dX6_forms_18 (by decide) ?_
      exact J_ret (r := some (.int _)) dX6_forms_20 ⟨rfl, _, rfl, rfl⟩ (⟨⟨⟨hW, he, rN_of _, ⟨_, htl2, fun i hi => va_up_ne _ _ hi, _, va_up_self _ _ _⟩⟩, hkp⟩, hjt⟩)
set_option maxRecDepth 100000 in
set_option maxHeartbeats 8000000 in
theorem w_X6_reach_newk {tS : jTS} (d : Nat) (V0 : jH) (a0 : Nat) (x1 : Int32) (x2 : Int32) (fs : List Value) (tl : Nat) (f : Nat → Option Nat) (j : Nat) (A : Nat → jad) (hd : 14 ≤ d) (hW : WT V0) (ha0 : jis V0 (.inr 4) a0) (hx : V0 a0 = some (.inr (4, fs))) (h5 : fs[5]? = some (.ref tl)) (htl : V0 tl = some (.inl (5, 4, .inr (.inr (.inr (.inr f)))))) (hg : x1 = nI j) (hj : j < 4) (hb1 : ¬ x1 < 0) (hb2 : ¬ Int32.ofNat 4 ≤ x1) (hb3 : ¬ x2 < 1) (hb4 : x2 ≤ 20) (hf : f j = none) (hty4 : ∀ j : Nat, j < 4 → f j = none ∨ ∃ t : Nat, f j = some t ∧ jty V0 t (A j) (j : Int)) (hA5 : ∀ i j : Nat, i < 4 → j < 4 → i ≠ j → f i ≠ none → f j ≠ none → jsp (A i) (A j)) (hp0 : 1 ≤ x2.toInt) (hp1 : x2.toInt ≤ 20) : jTot tS mX6_reach d [.ref a0, .int x1, .int x2] V0 12 35751 (fun r V => (jPost [.inl 5, .inr 2, .inr 3, .inr 1, .inl 6, .inl 34, .inl 35, .inl 36, .inl 3, .inl 10, .inl 11, .inl 9] V0 (fun r _ => ∃ y : Int32, r = some (.int y) ∧ ((-2147483648) ≤ y.toInt) ∧ (y.toInt ≤ 2147483647))) r V ∧ jle9 V0 V ∧ (∃ f2 : Nat → Option Nat, V tl = some (.inl (5, 4, .inr (.inr (.inr (.inr f2))))) ∧ (∀ i, i ≠ j → f2 i = f i) ∧ ∃ t, f2 j = some t) ∧ jTL V a0 ∧ jrt a0 V0 V) := by
  refine jTot.of_J [some (.ref a0), some (.int x1), some (.int x2), none, none, none] moX6_reach (Nat.le_of_ble_eq_true rfl) rfl ?_
  have hrx1 := j_rng x1
  have hrx2 := j_rng x2
  have he : jeff [.inl 5, .inr 2, .inr 3, .inr 1, .inl 6, .inl 34, .inl 35, .inl 36, .inl 3, .inl 10, .inl 11, .inl 9] V0 V0 := jeff.refl _ _
  have hkr : jrt a0 V0 V0 := jrt.rf
  have hj9 : jle9 V0 V0 := jle9.rf
  have hKx : jokO V0 (jFs 4) fs := hW _ _ id hx
  have htlk : jis V0 (.inl 5) tl := ⟨_, htl, rfl⟩
  have hN4 : (4 : Nat) < 2 ^ 31 := by decide
  have hvt : ∀ (j b : Nat), j < 4 → f j = some b → jis V0 (.inr 2) b := by
    obtain ⟨n9, f9, h91, h92, h93, h94⟩ := WT_arrR hW id rfl htlk
    cases htl.symm.trans h91
    exact h94
  have hjj : ∀ j2 : Nat, x1 = nI j2 → j2 < 4 → j2 = j := fun j2 h1 h2 => by
    have h3 : x1.toNatClampNeg = j2 := by rw [h1]; exact nI_clamp (by omega)
    have h4 : x1.toNatClampNeg = j := by rw [hg]; exact nI_clamp (by omega)
    omega
  clear hN4
  have hx0 := hx
  have h50 := h5
  have htl0 := htl
  refine J_aload_n dX6_reach_0 rfl ?_
  refine J_iload_n dX6_reach_1 rfl ?_
  refine J_iload_n dX6_reach_2 rfl ?_
  refine Jz_iconst 1 dX6_reach_3 (by decide) (fun y3 he3 => ?_)
  refine Jw_callV3 (q9 := (RX6, TX6, 7)) moX6_tallyFor jw_ml_X6_149 jw_im_X6_tallyFor jw_se_X6_tallyFor ha0 rfl rfl dX6_reach_4 (w_X6_tallyFor_newz (d - 1) _ _ _ _ _ fs tl f j (by omega) hW ha0 hx h5 htl hg hj hf hb1 hb2 (by rw [(jI_inj.mp (he3.eq.trans rfl) : y3 = 1)]; exact hb3) hb4) (by omega) (by omega) (by omega) (Nat.le_of_ble_eq_true rfl) (fun r4 V4 h4 => ?_)
  obtain ⟨t, rfl, hW, hx4, hbt, htl2, hjm⟩ := h4
  have hkr := hkr.trans he.1 (jrt.of hx4 (jdis_of rfl))
  have he := he.trans (hx4.sub (jsub_of rfl))
  have hj9 := hj9.trans (jle9.of hx4 (jnot_of rfl))
  have ha0 := ha0.mono hx4.1
  have htlk := htlk.mono hx4.1
  have hx := hx4.2 _ _ hx (jnot_of rfl)
  have hKx := hKx.mono hx4.1
  have htlk : jis V4 (.inl 5) tl := ⟨_, htl2, rfl⟩
  obtain ⟨P, hnew, hty, hnf, hfa⟩ := hjm
  have hjt : jTL V4 a0 := jTL.fresh hx0 h50 hty4 hA5 he.1 htl2 hj hf (va_up_self _ _ _) (fun i hi => va_up_ne _ _ hi) hty hnew (jTL.frs ⟨_, htl0, rfl⟩ hnew hfa jfp.rf)
  · refine J_astore_n dX6_reach_7 rfl (by decide) ?_
    refine J_aload_n dX6_reach_8 rfl ?_
    refine J_ifnull dX6_reach_9 ?_
    refine J_iload_n dX6_reach_12 rfl ?_
    refine Jz_iconst 2 dX6_reach_13 (by decide) (fun y13 he13 => ?_)
    refine Jz_icmp_eq (tgt := 23) jEq.rf he13 dX6_reach_14 (by decide) (fun c14 => ?_) (fun c14 => ?_)
    · refine Jz_bipush (-2) dX6_reach_23 (by decide) (fun y23 he23 => ?_)
      exact J_ret (r := some (.int _)) dX6_reach_25 ⟨rfl, _, rfl, rfl⟩ (⟨⟨hW, he, ⟨_, rfl, (j_rng _).1, (j_rng _).2⟩⟩, hj9, ⟨_, htl2, fun i hi => va_up_ne _ _ hi, _, va_up_self _ _ _⟩, hjt, hkr⟩)
    · refine J_iload_n dX6_reach_17 rfl ?_
      refine Jz_bipush 6 dX6_reach_18 (by decide) (fun y18 he18 => ?_)
      refine Jz_icmp_le (tgt := 26) jEq.rf he18 dX6_reach_20 (by decide) (fun c20 => ?_) (fun c20 => ?_)
      · refine Jz_iconst 1 dX6_reach_26 (by decide) (fun y26 he26 => ?_)
        refine J_istore dX6_reach_27 rfl (by decide) ?_
        refine Jz_iconst 0 dX6_reach_29 (by decide) (fun y29 he29 => ?_)
        refine J_istore dX6_reach_30 rfl (by decide) ?_
        have L32 : ∀ (N : Nat) (i4n32 : Int32) (i5n32 : Int32), (0 ≤ i5n32.toInt ∧ i5n32.toInt ≤ x2.toInt) → (i4n32.toInt = jpw (jdir x1.toInt) i5n32.toInt.toNat) → (300 - i5n32.toInt).toNat < N → J tS mX6_reach d 32 [some (.ref a0), some (.int x1), some (.int x2), some (.ref t), some (.int i4n32), some (.int i5n32)] [] V4 4 20013 (fun r V => (jPost [.inl 5, .inr 2, .inr 3, .inr 1, .inl 6, .inl 34, .inl 35, .inl 36, .inl 3, .inl 10, .inl 11, .inl 9] V0 (fun r _ => ∃ y : Int32, r = some (.int y) ∧ ((-2147483648) ≤ y.toInt) ∧ (y.toInt ≤ 2147483647))) r V ∧ jle9 V0 V ∧ (∃ f2 : Nat → Option Nat, V tl = some (.inl (5, 4, .inr (.inr (.inr (.inr f2))))) ∧ (∀ i, i ≠ j → f2 i = f i) ∧ ∃ t, f2 j = some t) ∧ jTL V a0 ∧ jrt a0 V0 V) := by
          intro N
          induction N with
          | zero => intro i4n32 i5n32  hi5 hpw hm; exact absurd hm (Nat.not_lt_zero _)
          | succ N ih =>
            intro i4n32 i5n32  hi5 hpw hm
            have ih32 := ih
            have hri5 := j_rng i5n32
            refine J_iload dX6_reach_32 rfl ?_
            refine J_iload_n dX6_reach_34 rfl ?_
            refine Jz_icmp_ge (tgt := 53) jEq.rf jEq.rf dX6_reach_35 (by decide) (fun c35 => ?_) (fun c35 => ?_)
            · have hall : i4n32.toInt = jpw (jdir x1.toInt) x2.toInt.toNat := by rw [hpw, show i5n32.toInt.toNat = x2.toInt.toNat by omega]
              refine J_iload dX6_reach_53 rfl ?_
              refine Jz_sipush 10000 dX6_reach_55 (by decide) (fun y55 he55 => ?_)
              refine Jz_icmp_le (tgt := 64) jEq.rf he55 dX6_reach_58 (by decide) (fun c58 => ?_) (fun c58 => ?_)
              · refine J_aload_n dX6_reach_64 rfl ?_
                obtain ⟨fs65, hO65, hK65⟩ := WT_obj hW id hbt
                obtain ⟨w65, hF65, b65, rfl, hb65⟩ := hK65.2 9 (.inr (some (.inl 9))) rfl
                refine J_get jf_X6_190 dX6_reach_65 hO65 hF65 ?_
                refine J_iload_n dX6_reach_68 rfl ?_
                obtain ⟨n69o, f69o, hA69o, hN69o, hM69o, hv69o⟩ := WT_arrI (r := (-2147483648, 2147483647)) hW id rfl hb65
                obtain rfl := hM69o 7 rfl
                clear hN69o hM69o
                refine J_callS2 moX6_cell jw_ml_X6_110 jw_st_X6_cell dX6_reach_69 (w_X6_cell_x (d - 1) _ _ _ hA69o (by decide) rfl (by omega) (by omega)) (by omega) (Nat.zero_le _) (Nat.zero_le _) (Nat.le_of_ble_eq_true rfl) (fun r69 V69 h69 => ?_)
                obtain ⟨⟨y69, rfl, hf69⟩, hE69⟩ := h69
                have hE69 := hE69.symm
                subst hE69
                · refine Jz_iconst (-1) dX6_reach_72 (by decide) (fun y72 he72 => ?_)
                  refine Jz_icmp_ne (tgt := 102) jEq.rf he72 dX6_reach_73 (by decide) (fun c73 => ?_) (fun c73 => ?_)
                  · refine J_aload_n dX6_reach_102 rfl ?_
                    refine J_get jf_X6_190 dX6_reach_103 hO65 hF65 ?_
                    refine J_iload_n dX6_reach_106 rfl ?_
                    refine J_callS2 moX6_cell jw_ml_X6_110 jw_st_X6_cell dX6_reach_107 (w_X6_cell_x (d - 1) _ _ _ hA69o (by decide) rfl (by omega) (by omega)) (by omega) (Nat.zero_le _) (Nat.zero_le _) (Nat.le_of_ble_eq_true rfl) (fun r107 V107 h107 => ?_)
                    obtain ⟨⟨y107, rfl, hf107⟩, hE107⟩ := h107
                    have hE107 := hE107.symm
                    subst hE107
                    · exact J_ret (r := some (.int _)) dX6_reach_110 ⟨rfl, _, rfl, rfl⟩ (⟨⟨hW, he, ⟨_, rfl, (j_rng _).1, (j_rng _).2⟩⟩, hj9, ⟨_, htl2, fun i hi => va_up_ne _ _ hi, _, va_up_self _ _ _⟩, hjt, hkr⟩)
                  · refine J_aload_n dX6_reach_76 rfl ?_
                    refine J_get jf_X6_190 dX6_reach_77 hO65 hF65 ?_
                    refine J_iload_n dX6_reach_80 rfl ?_
                    refine Jc_new jn_X6_193 dX6_reach_81 (by decide) (by decide) hW (fun q81 V81 hn81 hQ81 hk81 hW hx81 => ?_)
                    have hkr := hkr.trans he.1 (jrt.of hx81 (jdis_of rfl))
                    have he := he.trans (hx81.sub (jsub_of rfl))
                    have hj9 := hj9.trans (jle9.of hx81 (jnot_of rfl))
                    have hjt := hjt.keep hx81 (jdis_of rfl)
                    have ha0 := ha0.mono hx81.1
                    have htlk := htlk.mono hx81.1
                    have hbt := hbt.mono hx81.1
                    have hb65 := hb65.mono hx81.1
                    have hx := hx81.2 _ _ hx (jnot_of rfl)
                    have hKx := hKx.mono hx81.1
                    have hO65 := hx81.2 _ _ hO65 (jnot_of rfl)
                    have hK65 := hK65.mono hx81.1
                    have htl2 := hx81.2 _ _ htl2 (jnot_of rfl)
                    have hA69o := hx81.2 _ _ hA69o (jnot_of rfl)
                    refine J_dup dX6_reach_84 rfl ?_
                    refine J_iload_n dX6_reach_85 rfl ?_
                    refine J_iload_n dX6_reach_86 rfl ?_
                    refine J_iload dX6_reach_87 rfl ?_
                    refine J_callI3 moX5_init rfl rfl jw_ml_X6_195 jw_im_X5_init dX6_reach_89 (w_X5_init (d - 1) _ _ _ _ _ (by omega) hW hQ81) (by omega) (by decide) (by decide) (Nat.le_of_ble_eq_true rfl) (fun r89 V89 h89 => ?_)
                    obtain ⟨rfl, hW, hx89, hj899⟩ := h89
                    have hkr := hkr.trans he.1 (jrt.of hx89 (jdis_of rfl))
                    have he := he.trans (hx89.sub (jsub_of rfl))
                    have hj9 := hj9.trans (jle9.of hx89 (jnot_of rfl))
                    have hjt := hjt.keep hx89 (jdis_of rfl)
                    have ha0 := ha0.mono hx89.1
                    have htlk := htlk.mono hx89.1
                    have hbt := hbt.mono hx89.1
                    have hb65 := hb65.mono hx89.1
                    have hx := hx89.2 _ _ hx (jnot_of rfl)
                    have hKx := hKx.mono hx89.1
                    have hO65 := hx89.2 _ _ hO65 (jnot_of rfl)
                    have hK65 := hK65.mono hx89.1
                    have htl2 := hx89.2 _ _ htl2 (jnot_of rfl)
                    have hA69o := hx89.2 _ _ hA69o (jnot_of rfl)
                    refine J_aload_n dX6_reach_92 rfl ?_
                    obtain ⟨w93, hF93, b93, rfl, hb93⟩ := hKx.2 2 (.inr (some (.inr 1))) rfl
                    refine J_get jf_X6_22 dX6_reach_93 hx hF93 ?_
                    refine Jw_callV1 (q9 := (RX5, TX5, 7)) moX5_countReached jw_ml_X6_198 jw_im_X5_countReached jw_se_X5_countReached hj899 rfl rfl dX6_reach_96 (w_X5_countReached (d - 1) _ q81 b93 (by omega) hW hj899 hb93) (by omega) (Nat.zero_le _) (Nat.zero_le _) (Nat.le_of_ble_eq_true rfl) (fun r96 V96 h96 => ?_)
                    obtain ⟨h96, hX96_0⟩ := h96
                    obtain ⟨hW, hx96, hr96⟩ := h96
                    have hkr := hkr.trans he.1 (jrt.call hx hF93 hX96_0)
                    have he := he.trans (hx96.sub (jsub_of rfl))
                    have hj9 := hj9.trans (jle9.of hx96 (jnot_of rfl))
                    have hjt := hjt.keep hx96 (jdis_of rfl)
                    have ha0 := ha0.mono hx96.1
                    have htlk := htlk.mono hx96.1
                    have hbt := hbt.mono hx96.1
                    have hb65 := hb65.mono hx96.1
                    have hb93 := hb93.mono hx96.1
                    have hx := hx96.2 _ _ hx (jnot_of rfl)
                    have hKx := hKx.mono hx96.1
                    have hO65 := hx96.2 _ _ hO65 (jnot_of rfl)
                    have hK65 := hK65.mono hx96.1
                    have htl2 := hx96.2 _ _ htl2 (jnot_of rfl)
                    have hA69o := hx96.2 _ _ hA69o (jnot_of rfl)
                    obtain ⟨y96, rfl, hl96, hh96⟩ := hr96
                    refine J_callS3 moX6_put jw_ml_X6_183 jw_st_X6_put dX6_reach_99 (w_X6_put_x (d - 1) _ _ _ _ hW hA69o (by omega) (by omega) (by omega)) (by omega) (Nat.zero_le _) (Nat.zero_le _) (Nat.le_of_ble_eq_true rfl) (fun r99 V99 h99 => ?_)
                    obtain ⟨rfl, hW, hx99, hj99, G99, hA99, hp99, hc99⟩ := h99
                    obtain ⟨hN99, hv99⟩ := WT_rngI (r := (-2147483648, 2147483647)) hW id rfl hA99
                    clear hN99
                    have hkr := hkr.trans he.1 (jrt.of hx99 (jdis_of rfl))
                    have he := he.trans (hx99.sub (jsub_of rfl))
                    have hj9 := hj9.trans hj99
                    have hjt := hjt.keep hx99 (jdis_of rfl)
                    have ha0 := ha0.mono hx99.1
                    have htlk := htlk.mono hx99.1
                    have hbt := hbt.mono hx99.1
                    have hb65 := hb65.mono hx99.1
                    have hb93 := hb93.mono hx99.1
                    have hx := hx99.2 _ _ hx (jnot_of rfl)
                    have hKx := hKx.mono hx99.1
                    have hO65 := hx99.2 _ _ hO65 (jnot_of rfl)
                    have hK65 := hK65.mono hx99.1
                    have htl2 := hx99.2 _ _ htl2 (jnot_of rfl)
                    · refine J_aload_n dX6_reach_102 rfl ?_
                      refine J_get jf_X6_190 dX6_reach_103 hO65 hF65 ?_
                      refine J_iload_n dX6_reach_106 rfl ?_
                      refine J_callS2 moX6_cell jw_ml_X6_110 jw_st_X6_cell dX6_reach_107 (w_X6_cell_x (d - 1) _ _ _ hA99 (by decide) rfl (by omega) (by omega)) (by omega) (Nat.zero_le _) (Nat.zero_le _) (Nat.le_of_ble_eq_true rfl) (fun r107 V107 h107 => ?_)
                      obtain ⟨⟨y107, rfl, hf107⟩, hE107⟩ := h107
                      have hE107 := hE107.symm
                      subst hE107
                      · exact J_ret (r := some (.int _)) dX6_reach_110 ⟨rfl, _, rfl, rfl⟩ (⟨⟨hW, he, ⟨_, rfl, (j_rng _).1, (j_rng _).2⟩⟩, hj9, ⟨_, htl2, fun i hi => va_up_ne _ _ hi, _, va_up_self _ _ _⟩, hjt, hkr⟩)
              · refine Jz_bipush (-5) dX6_reach_61 (by decide) (fun y61 he61 => ?_)
                exact J_ret (r := some (.int _)) dX6_reach_63 ⟨rfl, _, rfl, rfl⟩ (⟨⟨hW, he, ⟨_, rfl, (j_rng _).1, (j_rng _).2⟩⟩, hj9, ⟨_, htl2, fun i hi => va_up_ne _ _ hi, _, va_up_self _ _ _⟩, hjt, hkr⟩)
            · refine J_iload dX6_reach_38 rfl ?_
              refine J_iload_n dX6_reach_40 rfl ?_
              refine J_callS1 moX0_directions jw_ml_X6_187 jw_st_X0_directions dX6_reach_41 (w_X0_directions_z (d - 1) _ x1 (by omega)   ) (by omega) (Nat.zero_le _) (Nat.zero_le _) (Nat.le_of_ble_eq_true rfl) (fun r41 V41 h41 => ?_)
              obtain ⟨⟨y41, rfl, hl41, hh41, hP41_0⟩, hE41⟩ := h41
              have hE41 := hE41.symm
              subst hE41
              have hz41 : jEq y41.toInt (jdir (x1.toInt)) := hP41_0
              simp only [hP41_0] at hl41 hh41
              clear hP41_0
              have hjd := jdir_cases x1.toInt
              have hq1 : i4n32.toInt * jdir x1.toInt = jpw (jdir x1.toInt) (i5n32.toInt.toNat + 1) := by rw [hpw, Int.mul_comm]; rfl
              have hq2 := jpw_le6 (d := jdir x1.toInt) (by omega) (by omega) (n := i5n32.toInt.toNat + 1) (by omega)
              have hq3 := jpw_pos (d := jdir x1.toInt) (by omega) (i5n32.toInt.toNat + 1)
              refine Jz_imul jEq.rf hz41 dX6_reach_44 (by omega) (by omega) (fun y44 he44 => ?_)
              refine J_istore dX6_reach_45 rfl (by decide) ?_
              refine Jz_iinc 1 dX6_reach_47 rfl rfl (by decide) jEq.rf (by decide) (by omega) (by omega) (fun y47 he47 => ?_)
              refine J_goto (tgt := 32) dX6_reach_50 (by decide) ?_
              refine J.mask [true, true, true, true, true, true] ?_
              exact ih32  y44 y47  (by (try simp only [he44.eq, he47.eq, true_and, and_true]) <;> omega) (by rw [he44.eq, Int.mul_comm, hpw, he47.eq, show (i5n32.toInt + 1).toNat = i5n32.toInt.toNat + 1 by omega]; rfl) (by (try simp only [he44.eq, he47.eq, true_and, and_true]) <;> omega)
        refine J.mask [true, true, true, true, true, true] ?_
        exact L32 _  y26 y29    (by (try simp only [he26.eq, he29.eq, true_and, and_true]) <;> omega) (by rw [he26.eq, he29.eq]; rfl) (Nat.lt_succ_self _)
      · refine Jz_bipush (-2) dX6_reach_23 (by decide) (fun y23 he23 => ?_)
        exact J_ret (r := some (.int _)) dX6_reach_25 ⟨rfl, _, rfl, rfl⟩ (⟨⟨hW, he, ⟨_, rfl, (j_rng _).1, (j_rng _).2⟩⟩, hj9, ⟨_, htl2, fun i hi => va_up_ne _ _ hi, _, va_up_self _ _ _⟩, hjt, hkr⟩)
set_option maxRecDepth 100000 in
set_option maxHeartbeats 4000000 in
theorem w_X6_init_t {tS : jTS} (d : Nat) (V0 : jH) (q : Nat)  (hd : 4 ≤ d) (hW : WTx (fun a => False ∨ a = q) V0) (hq : V0 q = some (.inr (4, [.null, .int 0, .null, .null, .null, .null, .null])))   : jTot tS mX6_init d [.ref q] V0 11 676 (fun r V => r = none ∧ WTx (fun _ => False) V ∧ jeff [.inr 4, .inr 1, .inr 0] V0 V ∧ jis V (.inr 4) q ∧ jfI V q 4 1 0 ∧ (jpx V q ∧ jtx V q ∧ jff V q ∧ jTL V q ∧ jTF V q)) := by
  refine jTot.of_J [some (.ref q)] moX6_init (Nat.le_of_ble_eq_true rfl) rfl ?_
  have he : jeff [.inr 4, .inr 1, .inr 0] V0 V0 := jeff.refl _ _
  refine J_aload_n dX6_init_0 rfl ?_
  refine J_objInit jw_ml_X6_1 jw_oi2 jw_oi3 dX6_init_1 (by omega) (Nat.le_of_ble_eq_true rfl) ?_
  refine J_aload_n dX6_init_4 rfl ?_
  refine J_bipush (v := 16) dX6_init_5 (by decide) ?_
  refine Jc_newq (N := 16) jw_cl_X6_9 (by decide) (t := 4) rfl dX6_init_7 (by decide) (by decide) (by decide) (jok_zR rfl (fun m h => by cases h <;> rfl) (by decide)) (by decide) (by decide) hW (fun b7 V7 hn7 hb7 hk7 hW hx7 => ?_)
  have hz7 := he.1.none hn7
  have he := he.trans (hx7.sub (jsub_of rfl))
  have hq := hk7 _ _ hq
  refine Jc_putF jf_X6_11 jt_X6_0 rfl (fun _ h => by cases h; rfl) dX6_init_10 hq rfl rfl (Nat.le_of_ble_eq_true rfl) (fun _ h => by cases h) hW (fun V10 hq hW hx10 hB10 => ?_)
  have he := he.trans (hx10.sub (jsub_of rfl))
  have hb7 := hb7.mono hx10.1
  refine J_aload_n dX6_init_13 rfl ?_
  refine J_iconst (v := 0) dX6_init_14 (by decide) ?_
  refine Jc_put jf_X6_15 jt_X6_1 dX6_init_15 hq rfl rfl (Nat.le_of_ble_eq_true rfl) (fun _ h => by cases h) hW (fun V15 hq hW hx15 hB15 => ?_)
  have he := he.trans (hx15.sub (jsub_of rfl))
  have hb7 := hb7.mono hx15.1
  refine J_aload_n dX6_init_18 rfl ?_
  refine Jc_new jn_X6_9 dX6_init_19 (by decide) (by decide) hW (fun q19 V19 hn19 hQ19 hk19 hW hx19 => ?_)
  have hne19 : q19 ≠ q := fun z => by rw [z, hq] at hn19; cases hn19
  have hz19 := he.1.none hn19
  have he := he.trans (hx19.sub (jsub_of rfl))
  have hb7 := hb7.mono hx19.1
  have hq := hk19 _ _ hq
  refine J_dup dX6_init_22 rfl ?_
  refine J_bipush (v := 120) dX6_init_23 (by decide) ?_
  refine J_callI1 moX3_init rfl rfl jw_ml_X6_19 jw_im_X3_init dX6_init_25 (w_X3_init (d - 1) _ (fun a => False ∨ a = q) _ _ (by omega) hW hQ19 (fun z => z.elim id hne19) ) (by omega) (by decide) (by decide) (Nat.le_of_ble_eq_true rfl) (fun r25 V25 h25 => ?_)
  obtain ⟨rfl, hW, hx25, hj25, hxc25⟩ := h25
  have he := he.trans (hx25.sub (jsub_of rfl))
  have hb7 := hb7.mono hx25.1
  have hq := hx25.2 _ _ hq (jnot_of rfl)
  obtain ⟨s9, x9, y9, z9, -, hjw, -⟩ := hxc25
  rw [show (jmost 120).toInt.toNat = 120 by decide] at hjw
  refine Jc_putF jf_X6_22 jt_X6_2 rfl (fun _ h => by cases h; rfl) dX6_init_28 hq rfl rfl (Nat.le_of_ble_eq_true rfl) (fun _ h => by cases h) hW (fun V28 hq hW hx28 hB28 => ?_)
  have he := he.trans (hx28.sub (jsub_of rfl))
  have hb7 := hb7.mono hx28.1
  have hj25 := hj25.mono hx28.1
  refine J_aload_n dX6_init_31 rfl ?_
  refine J_bipush (v := 60) dX6_init_32 (by decide) ?_
  refine Jc_newa (atype := .int) (t := 7) (B := 60) (x := .inl (fun _ => 0)) jw_ac_int rfl (fun _ h => by cases h) (by decide) dX6_init_34 (by decide) (by decide) (by decide) (fun _ _ => rfl) (fun hN => jok_zI rfl (by decide) (by decide) (fun m h => by cases h <;> rfl) hN) (by decide) (by decide) hW (fun b34 V34 hn34 hb34 hk34 hW hx34 => ?_)
  have hz34 := he.1.none hn34
  have he := he.trans (hx34.sub (jsub_of rfl))
  have hb7 := hb7.mono hx34.1
  have hj25 := hj25.mono hx34.1
  have hq := hk34 _ _ hq
  refine Jc_putF jf_X6_26 jt_X6_3 rfl (fun _ h => by cases h; rfl) dX6_init_36 hq rfl rfl (Nat.le_of_ble_eq_true rfl) (fun _ h => by cases h) hW (fun V36 hq hW hx36 hB36 => ?_)
  have he := he.trans (hx36.sub (jsub_of rfl))
  have hb7 := hb7.mono hx36.1
  have hj25 := hj25.mono hx36.1
  have hb34 := hb34.mono hx36.1
  refine J_aload_n dX6_init_39 rfl ?_
  refine J_bipush (v := 60) dX6_init_40 (by decide) ?_
  obtain ⟨e34, h34e, -⟩ := id hb34
  refine Jc_newa (atype := .int) (t := 7) (B := 60) (x := .inl (fun _ => 0)) jw_ac_int rfl (fun _ h => by cases h) (by decide) dX6_init_42 (by decide) (by decide) (by decide) (fun _ _ => rfl) (fun hN => jok_zI rfl (by decide) (by decide) (fun m h => by cases h <;> rfl) hN) (by decide) (by decide) hW (fun b42 V42 hn42 hb42 hk42 hW hx42 => ?_)
  have hz42 := he.1.none hn42
  have he := he.trans (hx42.sub (jsub_of rfl))
  have hb7 := hb7.mono hx42.1
  have hj25 := hj25.mono hx42.1
  have hb34 := hb34.mono hx42.1
  have hq := hk42 _ _ hq
  have hne9 : b34 ≠ b42 := fun z => by rw [z, hn42] at h34e; cases h34e
  refine Jc_putF jf_X6_30 jt_X6_4 rfl (fun _ h => by cases h; rfl) dX6_init_44 hq rfl rfl (Nat.le_of_ble_eq_true rfl) (fun _ h => by cases h) hW (fun V44 hq hW hx44 hB44 => ?_)
  have he := he.trans (hx44.sub (jsub_of rfl))
  have hb7 := hb7.mono hx44.1
  have hj25 := hj25.mono hx44.1
  have hb34 := hb34.mono hx44.1
  have hb42 := hb42.mono hx44.1
  refine J_aload_n dX6_init_47 rfl ?_
  refine J_iconst (v := 4) dX6_init_48 (by decide) ?_
  refine Jc_newqx (N := 4) jw_cl_X6_33 (by decide) (t := 5) rfl dX6_init_49 (by decide) (by decide) (by decide) (jok_zR rfl (fun m h => by cases h <;> rfl) (by decide)) (by decide) (by decide) hW (fun b49 V49 hn49 hb49 hk49 hW hx49 hA49 => ?_)
  have hz49 := he.1.none hn49
  have he := he.trans (hx49.sub (jsub_of rfl))
  have hb7 := hb7.mono hx49.1
  have hj25 := hj25.mono hx49.1
  have hb34 := hb34.mono hx49.1
  have hb42 := hb42.mono hx49.1
  have hq := hk49 _ _ hq
  refine Jc_putF jf_X6_35 jt_X6_5 rfl (fun _ h => by cases h; rfl) dX6_init_52 hq rfl rfl (Nat.le_of_ble_eq_true rfl) (fun _ h => by cases h) hW (fun V52 hq hW hx52 hB52 => ?_)
  have he := he.trans (hx52.sub (jsub_of rfl))
  have hb7 := hb7.mono hx52.1
  have hj25 := hj25.mono hx52.1
  have hb34 := hb34.mono hx52.1
  have hb42 := hb42.mono hx52.1
  have hb49 := hb49.mono hx52.1
  have hA49 := hx52.2 _ _ hA49 (jnot_of rfl)
  refine J_aload_n dX6_init_55 rfl ?_
  refine Jc_new jn_X6_39 dX6_init_56 (by decide) (by decide) hW (fun q56 V56 hn56 hQ56 hk56 hW hx56 => ?_)
  have hne56 : q56 ≠ q := fun z => by rw [z, hq] at hn56; cases hn56
  have hz56 := he.1.none hn56
  have he := he.trans (hx56.sub (jsub_of rfl))
  have hb7 := hb7.mono hx56.1
  have hj25 := hj25.mono hx56.1
  have hb34 := hb34.mono hx56.1
  have hb42 := hb42.mono hx56.1
  have hb49 := hb49.mono hx56.1
  have hq := hk56 _ _ hq
  have hA49 := hk56 _ _ hA49
  refine J_dup dX6_init_59 rfl ?_
  refine J_callI0 moX2_init rfl rfl jw_ml_X6_41 jw_im_X2_init dX6_init_60 (w_X2_init (d - 1) _ (fun a => False ∨ a = q) _ (by omega) hW hQ56 (fun z => z.elim id hne56) ) (by omega) (by decide) (by decide) (Nat.le_of_ble_eq_true rfl) (fun r60 V60 h60 => ?_)
  obtain ⟨rfl, hW, hx60, hj60, hxc60⟩ := h60
  have he := he.trans (hx60.sub (jsub_of rfl))
  have hb7 := hb7.mono hx60.1
  have hj25 := hj25.mono hx60.1
  have hb34 := hb34.mono hx60.1
  have hb42 := hb42.mono hx60.1
  have hb49 := hb49.mono hx60.1
  have hA49 := hx60.2 _ _ hA49 (jnot_of rfl)
  have hq := hx60.2 _ _ hq (jnot_of rfl)
  refine Jc_putF jf_X6_42 jt_X6_6 rfl (fun _ h => by cases h; rfl) dX6_init_63 hq rfl rfl (Nat.le_of_ble_eq_true rfl) (fun _ h => by cases h) hW (fun V63 hq hW hx63 hB63 => ?_)
  have he := he.trans (hx63.sub (jsub_of rfl))
  have hb7 := hb7.mono hx63.1
  have hj25 := hj25.mono hx63.1
  have hb34 := hb34.mono hx63.1
  have hb42 := hb42.mono hx63.1
  have hb49 := hb49.mono hx63.1
  have hj60 := hj60.mono hx63.1
  have hA49 := hx63.2 _ _ hA49 (jnot_of rfl)
  exact J_ret (r := none) dX6_init_66 ⟨rfl, rfl⟩ (⟨rfl, hW.fin hq (jokO_cons ⟨_, rfl, hb7⟩ (jokO_cons ⟨_, rfl, by first | decide | assumption | omega, by first | decide | assumption | omega⟩ (jokO_cons ⟨_, rfl, hj25⟩ (jokO_cons ⟨_, rfl, hb34⟩ (jokO_cons ⟨_, rfl, hb42⟩ (jokO_cons ⟨_, rfl, hb49⟩ (jokO_cons ⟨_, rfl, hj60⟩ (jokO_nil)))))))), he, ⟨_, hq, rfl⟩, ⟨_, hq, rfl⟩, ⟨⟨_, _, hq, rfl, hxc60.keep hx63 (jnot_of rfl)⟩, ⟨q19, s9, x9, y9, z9, ⟨_, hq, rfl⟩, ((((((((((hjw.keep hx28 (jdis_of rfl)).keep hx34 (jdis_of rfl)).keep hx36 (jdis_of rfl)).keep hx42 (jdis_of rfl)).keep hx44 (jdis_of rfl)).keep hx49 (jdis_of rfl)).keep hx52 (jdis_of rfl)).keep hx56 (jdis_of rfl)).keep hx60 (jdis_of rfl)).keep hx63 (jdis_of rfl))⟩, ⟨b34, b42, ⟨_, hq, rfl⟩, ⟨_, hq, rfl⟩, hne9⟩, jTL.init hq rfl hA49, jTF.init hq rfl hA49⟩⟩)
