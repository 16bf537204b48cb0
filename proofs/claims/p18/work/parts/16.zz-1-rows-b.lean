set_option maxRecDepth 100000 in
set_option maxHeartbeats 8000000 in
theorem w_X7_squares_z {tS : jTS} (d : Nat) (V0 : jH) (a0 : Nat) (x1 : Int32) (x2 : Int32) (hd : 3 ≤ d) (hW : WT V0) (ha0 : jis V0 (.inr 5) a0) (hct : jRM V0 a0) : jTot tS mX7_squares d [.ref a0, .int x1, .int x2] V0 0 0 (fun r V => (jPost [.inr 5, .inl 40, .inl 23, .inl 17, .inl 18, .inl 19, .inl 20, .inl 41, .inl 26, .inl 46, .inl 24, .inl 25] V0 (fun r _ => ∃ y : Int64, r = some (.long y) ∧ (((0 ≤ x1.toInt ∧ x1.toInt ≤ 3 ∧ 0 ≤ x2.toInt ∧ x2.toInt ≤ 20) ∧ ((jTT x1.toInt x2.toInt.toNat jL0 ≤ 600000 ∧ y = (jrq x1.toInt x2.toInt.toNat).2.1) ∨ (600000 < jTT x1.toInt x2.toInt.toNat jL0 ∧ y = -5))) ∨ (¬ (0 ≤ x1.toInt ∧ x1.toInt ≤ 3 ∧ 0 ≤ x2.toInt ∧ x2.toInt ≤ 20) ∧ y = -2)))) r V ∧ jRM V a0 ∧ jkc 5 [0, 23, 24] V0 V) := by
  refine jTot.of_J [some (.ref a0), some (.int x1), some (.int x2)] moX7_squares (Nat.le_of_ble_eq_true rfl) rfl ?_
  have hrx1 := j_rng x1
  have hrx2 := j_rng x2
  have he : jeff [.inr 5, .inl 40, .inl 23, .inl 17, .inl 18, .inl 19, .inl 20, .inl 41, .inl 26, .inl 46, .inl 24, .inl 25] V0 V0 := jeff.refl _ _
  have hkp : jkc 5 [0, 23, 24] V0 V0 := jkc.rf
  obtain ⟨kn, co, sq, rg, bg, se, KN, CO, SQ, RG, BG, SE, ⟨m1, m2, m3, m4, m5, m6⟩, ⟨k1, k2, k3, k4, k5, k6⟩, hsn0, hmo⟩ := id hct
  obtain ⟨ms, hM, g11⟩ := id m1
  have g12 := m2.get hM
  have g13 := m3.get hM
  have g14 := m4.get hM
  have g15 := m5.get hM
  have g16 := m6.get hM
  have hKm : jokO V0 (jFs 5) ms := hW _ _ id hM
  have hbm1 : jis V0 (.inl 40) kn := ⟨_, k1, rfl⟩
  have hbm2 : jis V0 (.inl 23) co := ⟨_, k2, rfl⟩
  have hbm3 : jis V0 (.inl 46) sq := ⟨_, k3, rfl⟩
  have hbm4 : jis V0 (.inl 24) rg := ⟨_, k4, rfl⟩
  have hbm5 : jis V0 (.inl 25) bg := ⟨_, k5, rfl⟩
  have hbm6 : jis V0 (.inl 41) se := ⟨_, k6, rfl⟩
  refine J_iload_n dX7_squares_0 rfl ?_
  refine J_callS1 moX7_isGround jw_ml_X7_184 jw_st_X7_isGround dX7_squares_1 (w_X7_isGround_y (d - 1) _ x1 (by omega)   ) (by omega) (Nat.zero_le _) (Nat.zero_le _) (Nat.le_of_ble_eq_true rfl) (fun r1 V1 h1 => ?_)
  obtain ⟨⟨y1, rfl, hl1, hh1, hP1_0⟩, hE1⟩ := h1
  have hE1 := hE1.symm
  subst hE1
  refine Jz_if_eq (tgt := 17) jEq.rf dX7_squares_4 (by decide) (fun c4 => ?_) (fun c4 => ?_)
  · refine J_ldc2 jw_k_X7_191 dX7_squares_17 ?_
    exact J_ret (r := some (.long _)) dX7_squares_20 ⟨rfl, rfl⟩ (⟨⟨hW, he, ⟨_, rfl, (Or.inr ⟨(by omega), rfl⟩)⟩⟩, hct, hkp⟩)
  · refine J_iload_n dX7_squares_7 rfl ?_
    refine Jz_iconst 0 dX7_squares_8 (by decide) (fun y8 he8 => ?_)
    refine Jz_bipush 20 dX7_squares_9 (by decide) (fun y9 he9 => ?_)
    refine J_callS3 moX7_in jw_ml_X7_105 jw_st_X7_in dX7_squares_11 (w_X7_in_y (d - 1) _ x2 y8 y9 (by omega)   ) (by omega) (Nat.zero_le _) (Nat.zero_le _) (Nat.le_of_ble_eq_true rfl) (fun r11 V11 h11 => ?_)
    obtain ⟨⟨y11, rfl, hl11, hh11, hP11_0⟩, hE11⟩ := h11
    have hE11 := hE11.symm
    subst hE11
    try simp only [he8.eq, he9.eq] at hP11_0
    refine Jz_if_ne (tgt := 21) jEq.rf dX7_squares_14 (by decide) (fun c14 => ?_) (fun c14 => ?_)
    · refine J_aload_n dX7_squares_21 rfl ?_
      refine J_iload_n dX7_squares_22 rfl ?_
      refine J_iload_n dX7_squares_23 rfl ?_
      have hig : ((x1.toInt.toNat : Nat) : Int) = x1.toInt := by omega
      have hix : 21 * x1.toInt.toNat + x2.toInt.toNat = (21 * x1.toInt + x2.toInt).toNat := by omega
      have hmo0 : jmo x1.toInt x2.toInt.toNat KN CO SQ RG BG (21 * x1.toInt + x2.toInt).toNat := by
          have q := hmo x1.toInt.toNat x2.toInt.toNat (by omega) (by omega)
          rw [hig, hix] at q
          exact q
      obtain ⟨w24p4, hF24p4, b24p4, rfl, hb24p4⟩ := hKm.2 4 (.inr (some (.inl 17))) rfl
      obtain ⟨w24p6, hF24p6, b24p6, rfl, hb24p6⟩ := hKm.2 6 (.inr (some (.inl 18))) rfl
      obtain ⟨w24p7, hF24p7, b24p7, rfl, hb24p7⟩ := hKm.2 7 (.inr (some (.inl 19))) rfl
      obtain ⟨w24p8, hF24p8, b24p8, rfl, hb24p8⟩ := hKm.2 8 (.inr (some (.inl 20))) rfl
      obtain ⟨w24p17, hF24p17, b24p17, rfl, hb24p17⟩ := hKm.2 17 (.inr (some (.inl 26))) rfl
      obtain ⟨n24q17, f24q17, hA24q17, hN24q17, hM24q17, hv24q17⟩ := WT_arrI (r := (-2147483648, 2147483647)) hW id rfl hb24p4
      obtain rfl := hM24q17 120 rfl
      clear hN24q17 hM24q17
      obtain ⟨n24q18, f24q18, hA24q18, hN24q18, hM24q18, hv24q18⟩ := WT_arrI (r := (-2147483648, 2147483647)) hW id rfl hb24p6
      obtain rfl := hM24q18 121 rfl
      clear hN24q18 hM24q18
      obtain ⟨n24q19, f24q19, hA24q19, hN24q19, hM24q19, hv24q19⟩ := WT_arrI (r := (-2147483648, 2147483647)) hW id rfl hb24p7
      obtain rfl := hM24q19 121 rfl
      clear hN24q19 hM24q19
      obtain ⟨n24q20, f24q20, hA24q20, hN24q20, hM24q20, hv24q20⟩ := WT_arrI (r := (-2147483648, 2147483647)) hW id rfl hb24p8
      obtain rfl := hM24q20 121 rfl
      clear hN24q20 hM24q20
      obtain ⟨n24q26, f24q26, hA24q26, hN24q26, hM24q26, hv24q26⟩ := WT_arrI (r := (-2147483648, 2147483647)) hW id rfl hb24p17
      obtain rfl := hM24q26 22 rfl
      clear hN24q26 hM24q26
      refine Jw_callV2 (q9 := (RX7, TX7, 34)) moX7_counts jw_ml_X7_187 jw_im_X7_counts jw_se_X7_counts ha0 rfl rfl dX7_squares_24 (w_X7_counts_z (d - 1) _ a0 x1 x2 b24p4 b24p6 b24p7 b24p8 kn co sq rg bg se b24p17 f24q17 f24q18 f24q19 f24q20 KN CO SQ RG BG SE f24q26 (by omega) hW  ha0 ⟨_, hM, hF24p4⟩ ⟨_, hM, hF24p6⟩ ⟨_, hM, hF24p7⟩ ⟨_, hM, hF24p8⟩ ⟨_, hM, g11⟩ ⟨_, hM, g12⟩ ⟨_, hM, g13⟩ ⟨_, hM, g14⟩ ⟨_, hM, g15⟩ ⟨_, hM, g16⟩ ⟨_, hM, hF24p17⟩ hA24q17 hA24q18 hA24q19 hA24q20 k1 k2 k3 k4 k5 k6 hA24q26 (by omega) (by omega) (by omega) (by omega) hsn0 hmo0) (by omega) (Nat.zero_le _) (Nat.zero_le _) (Nat.le_of_ble_eq_true rfl) (fun r24 V24 h24 => ?_)
      obtain ⟨h24, hX24_0, hX24_1⟩ := h24
      obtain ⟨hW, hx24, hr24⟩ := h24
      have he := he.trans (hx24.sub (jsub_of rfl))
      have hkp := hkp.trans hX24_1
      have ha0 := ha0.mono hx24.1
      have hbm1 := hbm1.mono hx24.1
      have hbm2 := hbm2.mono hx24.1
      have hbm3 := hbm3.mono hx24.1
      have hbm4 := hbm4.mono hx24.1
      have hbm5 := hbm5.mono hx24.1
      have hbm6 := hbm6.mono hx24.1
      have hb24p4 := hb24p4.mono hx24.1
      have hb24p6 := hb24p6.mono hx24.1
      have hb24p7 := hb24p7.mono hx24.1
      have hb24p8 := hb24p8.mono hx24.1
      have hb24p17 := hb24p17.mono hx24.1
      obtain ⟨fs24a0, hOfs24a0, hRfs24a0⟩ := hx24.1.keep hM
      have hKfs24a0 : jokO _ (jFs 5) fs24a0 := hW _ _ id hOfs24a0
      have hFfs24a0_11 := hRfs24a0 _ _ g11
      have hFfs24a0_12 := hRfs24a0 _ _ g12
      have hFfs24a0_13 := hRfs24a0 _ _ g13
      have hFfs24a0_14 := hRfs24a0 _ _ g14
      have hFfs24a0_15 := hRfs24a0 _ _ g15
      have hFfs24a0_16 := hRfs24a0 _ _ g16
      have hFfs24a0_4 := hRfs24a0 _ _ hF24p4
      have hFfs24a0_6 := hRfs24a0 _ _ hF24p6
      have hFfs24a0_7 := hRfs24a0 _ _ hF24p7
      have hFfs24a0_8 := hRfs24a0 _ _ hF24p8
      have hFfs24a0_17 := hRfs24a0 _ _ hF24p17
      cases hr24
      obtain ⟨KN24, CO24, SQ24, RG24, BG24, SE24, b1, b2, b3, b4, b5, b6, hsn, hkn, hmk, hko, hot⟩ := hX24_0
      have hct : jRM V24 a0 := jRM.upd (g := x1.toInt.toNat) (n := x2.toInt.toNat) (by omega) (by omega) m1 m2 m3 m4 m5 m6 he b1 b2 b3 b4 b5 b6 hsn (by rw [hix]; exact hkn) (by rw [hig, hix]; exact hmk) (by rw [hix]; exact hko) (by rw [hix]; exact hot) hmo
      obtain ⟨hN_KN24, hv_KN24⟩ := WT_rngI (r := (0, 1)) hW id rfl b1
      clear hN_KN24
      obtain ⟨hN_CO24, hv_CO24⟩ := WT_rngI (r := ((-2147483648), 2147483647)) hW id rfl b2
      clear hN_CO24
      obtain ⟨hN_RG24, hv_RG24⟩ := WT_rngI (r := ((-2147483648), 2147483647)) hW id rfl b4
      clear hN_RG24
      obtain ⟨hN_BG24, hv_BG24⟩ := WT_rngI (r := ((-2147483648), 2147483647)) hW id rfl b5
      clear hN_BG24
      obtain ⟨hN_SE24, hv_SE24⟩ := WT_rngI (r := (0, 1)) hW id rfl b6
      clear hN_SE24
      refine J_aload_n dX7_squares_27 rfl ?_
      refine J_get jf_X7_41 dX7_squares_28 hOfs24a0 hFfs24a0_12 ?_
      refine Jz_bipush 21 dX7_squares_31 (by decide) (fun y31 he31 => ?_)
      refine J_iload_n dX7_squares_33 rfl ?_
      refine Jz_imul he31 jEq.rf dX7_squares_34 (by omega) (by omega) (fun y34 he34 => ?_)
      refine J_iload_n dX7_squares_35 rfl ?_
      refine Jz_iadd he34 jEq.rf dX7_squares_36 (by omega) (by omega) (fun y36 he36 => ?_)
      refine Jz_iald (r := ((-2147483648), 2147483647)) he36 dX7_squares_37 b2 rfl hv_CO24 (by omega) (by omega) (fun y37 hf37 hl37 hh37 => ?_)
      dsimp only at hl37 hh37
      clear hl37 hh37
      have e37 : CO24 (21 * x1.toInt + x2.toInt).toNat = y37 := by rw [hf37]
      refine Jz_bipush (-5) dX7_squares_38 (by decide) (fun y38 he38 => ?_)
      refine Jz_icmp_ne (tgt := 49) jEq.rf he38 dX7_squares_40 (by decide) (fun c40 => ?_) (fun c40 => ?_)
      · refine J_aload_n dX7_squares_49 rfl ?_
        refine J_get jf_X7_44 dX7_squares_50 hOfs24a0 hFfs24a0_13 ?_
        refine Jz_bipush 21 dX7_squares_53 (by decide) (fun y53 he53 => ?_)
        refine J_iload_n dX7_squares_55 rfl ?_
        refine Jz_imul he53 jEq.rf dX7_squares_56 (by omega) (by omega) (fun y56 he56 => ?_)
        refine J_iload_n dX7_squares_57 rfl ?_
        refine Jz_iadd he56 jEq.rf dX7_squares_58 (by omega) (by omega) (fun y58 he58 => ?_)
        refine Jz_laldx he58 dX7_squares_59 b3 rfl (by omega) (by omega) ?_
        exact J_ret (r := some (.long _)) dX7_squares_60 ⟨rfl, rfl⟩ (⟨⟨hW, he, ⟨_, rfl, (Or.inl ⟨(by omega), (hmk.co.elim (fun q => Or.inl ⟨q.1, q.2.2.2.1⟩) (fun q => absurd (show y37.toInt = -5 by rw [← e37]; exact q.2) (by omega)))⟩)⟩⟩, hct, hkp⟩)
      · refine J_ldc2 jw_k_X7_193 dX7_squares_43 ?_
        refine J_goto (tgt := 60) dX7_squares_46 (by decide) ?_
        exact J_ret (r := some (.long _)) dX7_squares_60 ⟨rfl, rfl⟩ (⟨⟨hW, he, ⟨_, rfl, (Or.inl ⟨(by omega), (hmk.co.elim (fun q => absurd q.2.1 (by rw [e37]; omega)) (fun q => Or.inr ⟨q.1, rfl⟩))⟩)⟩⟩, hct, hkp⟩)
    · refine J_ldc2 jw_k_X7_191 dX7_squares_17 ?_
      exact J_ret (r := some (.long _)) dX7_squares_20 ⟨rfl, rfl⟩ (⟨⟨hW, he, ⟨_, rfl, (Or.inr ⟨(by omega), rfl⟩)⟩⟩, hct, hkp⟩)
set_option maxRecDepth 100000 in
set_option maxHeartbeats 8000000 in
theorem w_X7_rings_z {tS : jTS} (d : Nat) (V0 : jH) (a0 : Nat) (x1 : Int32) (x2 : Int32) (hd : 3 ≤ d) (hW : WT V0) (ha0 : jis V0 (.inr 5) a0) (hct : jRM V0 a0) : jTot tS mX7_rings d [.ref a0, .int x1, .int x2] V0 0 0 (fun r V => (jPost [.inr 5, .inl 40, .inl 23, .inl 17, .inl 18, .inl 19, .inl 20, .inl 41, .inl 26, .inl 46, .inl 24, .inl 25] V0 (fun r _ => ∃ y : Int32, r = some (.int y) ∧ ((-2147483648) ≤ y.toInt) ∧ (y.toInt ≤ 2147483647) ∧ (((0 ≤ x1.toInt ∧ x1.toInt ≤ 3 ∧ 3 ≤ x2.toInt ∧ x2.toInt ≤ 20) ∧ ((jTT x1.toInt (x2.toInt - 1).toNat jL0 ≤ 600000 ∧ y = (jrq x1.toInt (x2.toInt - 1).toNat).2.2.1) ∨ (600000 < jTT x1.toInt (x2.toInt - 1).toNat jL0 ∧ y.toInt = -5))) ∨ (¬ (0 ≤ x1.toInt ∧ x1.toInt ≤ 3 ∧ 3 ≤ x2.toInt ∧ x2.toInt ≤ 20) ∧ y.toInt = -2)))) r V ∧ jRM V a0 ∧ jkc 5 [0, 23, 24] V0 V) := by
  refine jTot.of_J [some (.ref a0), some (.int x1), some (.int x2)] moX7_rings (Nat.le_of_ble_eq_true rfl) rfl ?_
  have hrx1 := j_rng x1
  have hrx2 := j_rng x2
  have he : jeff [.inr 5, .inl 40, .inl 23, .inl 17, .inl 18, .inl 19, .inl 20, .inl 41, .inl 26, .inl 46, .inl 24, .inl 25] V0 V0 := jeff.refl _ _
  have hkp : jkc 5 [0, 23, 24] V0 V0 := jkc.rf
  obtain ⟨kn, co, sq, rg, bg, se, KN, CO, SQ, RG, BG, SE, ⟨m1, m2, m3, m4, m5, m6⟩, ⟨k1, k2, k3, k4, k5, k6⟩, hsn0, hmo⟩ := id hct
  obtain ⟨ms, hM, g11⟩ := id m1
  have g12 := m2.get hM
  have g13 := m3.get hM
  have g14 := m4.get hM
  have g15 := m5.get hM
  have g16 := m6.get hM
  have hKm : jokO V0 (jFs 5) ms := hW _ _ id hM
  have hbm1 : jis V0 (.inl 40) kn := ⟨_, k1, rfl⟩
  have hbm2 : jis V0 (.inl 23) co := ⟨_, k2, rfl⟩
  have hbm3 : jis V0 (.inl 46) sq := ⟨_, k3, rfl⟩
  have hbm4 : jis V0 (.inl 24) rg := ⟨_, k4, rfl⟩
  have hbm5 : jis V0 (.inl 25) bg := ⟨_, k5, rfl⟩
  have hbm6 : jis V0 (.inl 41) se := ⟨_, k6, rfl⟩
  refine J_iload_n dX7_rings_0 rfl ?_
  refine J_callS1 moX7_isGround jw_ml_X7_184 jw_st_X7_isGround dX7_rings_1 (w_X7_isGround_y (d - 1) _ x1 (by omega)   ) (by omega) (Nat.zero_le _) (Nat.zero_le _) (Nat.le_of_ble_eq_true rfl) (fun r1 V1 h1 => ?_)
  obtain ⟨⟨y1, rfl, hl1, hh1, hP1_0⟩, hE1⟩ := h1
  have hE1 := hE1.symm
  subst hE1
  refine Jz_if_eq (tgt := 17) jEq.rf dX7_rings_4 (by decide) (fun c4 => ?_) (fun c4 => ?_)
  · refine Jz_bipush (-2) dX7_rings_17 (by decide) (fun y17 he17 => ?_)
    exact J_ret (r := some (.int _)) dX7_rings_19 ⟨rfl, _, rfl, rfl⟩ (⟨⟨hW, he, ⟨_, rfl, (j_rng _).1, (j_rng _).2, (Or.inr ⟨(by omega), he17.eq⟩)⟩⟩, hct, hkp⟩)
  · refine J_iload_n dX7_rings_7 rfl ?_
    refine Jz_iconst 3 dX7_rings_8 (by decide) (fun y8 he8 => ?_)
    refine Jz_bipush 20 dX7_rings_9 (by decide) (fun y9 he9 => ?_)
    refine J_callS3 moX7_in jw_ml_X7_105 jw_st_X7_in dX7_rings_11 (w_X7_in_y (d - 1) _ x2 y8 y9 (by omega)   ) (by omega) (Nat.zero_le _) (Nat.zero_le _) (Nat.le_of_ble_eq_true rfl) (fun r11 V11 h11 => ?_)
    obtain ⟨⟨y11, rfl, hl11, hh11, hP11_0⟩, hE11⟩ := h11
    have hE11 := hE11.symm
    subst hE11
    try simp only [he8.eq, he9.eq] at hP11_0
    refine Jz_if_ne (tgt := 20) jEq.rf dX7_rings_14 (by decide) (fun c14 => ?_) (fun c14 => ?_)
    · refine J_aload_n dX7_rings_20 rfl ?_
      refine J_iload_n dX7_rings_21 rfl ?_
      refine J_iload_n dX7_rings_22 rfl ?_
      refine Jz_iconst 1 dX7_rings_23 (by decide) (fun y23 he23 => ?_)
      refine Jz_isub jEq.rf he23 dX7_rings_24 (by omega) (by omega) (fun y24 he24 => ?_)
      have hig : ((x1.toInt.toNat : Nat) : Int) = x1.toInt := by omega
      have hix : 21 * x1.toInt.toNat + (x2.toInt - 1).toNat = (21 * x1.toInt + (x2.toInt - 1)).toNat := by omega
      have hmo0 : jmo x1.toInt (x2.toInt - 1).toNat KN CO SQ RG BG (21 * x1.toInt + (x2.toInt - 1)).toNat := by
          have q := hmo x1.toInt.toNat (x2.toInt - 1).toNat (by omega) (by omega)
          rw [hig, hix] at q
          exact q
      obtain ⟨w25p4, hF25p4, b25p4, rfl, hb25p4⟩ := hKm.2 4 (.inr (some (.inl 17))) rfl
      obtain ⟨w25p6, hF25p6, b25p6, rfl, hb25p6⟩ := hKm.2 6 (.inr (some (.inl 18))) rfl
      obtain ⟨w25p7, hF25p7, b25p7, rfl, hb25p7⟩ := hKm.2 7 (.inr (some (.inl 19))) rfl
      obtain ⟨w25p8, hF25p8, b25p8, rfl, hb25p8⟩ := hKm.2 8 (.inr (some (.inl 20))) rfl
      obtain ⟨w25p17, hF25p17, b25p17, rfl, hb25p17⟩ := hKm.2 17 (.inr (some (.inl 26))) rfl
      obtain ⟨n25q17, f25q17, hA25q17, hN25q17, hM25q17, hv25q17⟩ := WT_arrI (r := (-2147483648, 2147483647)) hW id rfl hb25p4
      obtain rfl := hM25q17 120 rfl
      clear hN25q17 hM25q17
      obtain ⟨n25q18, f25q18, hA25q18, hN25q18, hM25q18, hv25q18⟩ := WT_arrI (r := (-2147483648, 2147483647)) hW id rfl hb25p6
      obtain rfl := hM25q18 121 rfl
      clear hN25q18 hM25q18
      obtain ⟨n25q19, f25q19, hA25q19, hN25q19, hM25q19, hv25q19⟩ := WT_arrI (r := (-2147483648, 2147483647)) hW id rfl hb25p7
      obtain rfl := hM25q19 121 rfl
      clear hN25q19 hM25q19
      obtain ⟨n25q20, f25q20, hA25q20, hN25q20, hM25q20, hv25q20⟩ := WT_arrI (r := (-2147483648, 2147483647)) hW id rfl hb25p8
      obtain rfl := hM25q20 121 rfl
      clear hN25q20 hM25q20
      obtain ⟨n25q26, f25q26, hA25q26, hN25q26, hM25q26, hv25q26⟩ := WT_arrI (r := (-2147483648, 2147483647)) hW id rfl hb25p17
      obtain rfl := hM25q26 22 rfl
      clear hN25q26 hM25q26
      refine Jw_callV2 (q9 := (RX7, TX7, 34)) moX7_counts jw_ml_X7_187 jw_im_X7_counts jw_se_X7_counts ha0 rfl rfl dX7_rings_25 (w_X7_counts_z (d - 1) _ a0 x1 y24 b25p4 b25p6 b25p7 b25p8 kn co sq rg bg se b25p17 f25q17 f25q18 f25q19 f25q20 KN CO SQ RG BG SE f25q26 (by omega) hW  ha0 ⟨_, hM, hF25p4⟩ ⟨_, hM, hF25p6⟩ ⟨_, hM, hF25p7⟩ ⟨_, hM, hF25p8⟩ ⟨_, hM, g11⟩ ⟨_, hM, g12⟩ ⟨_, hM, g13⟩ ⟨_, hM, g14⟩ ⟨_, hM, g15⟩ ⟨_, hM, g16⟩ ⟨_, hM, hF25p17⟩ hA25q17 hA25q18 hA25q19 hA25q20 k1 k2 k3 k4 k5 k6 hA25q26 (by omega) (by omega) (by rw [he24.eq]; omega) (by rw [he24.eq]; omega) hsn0 (by rw [he24.eq]; exact hmo0)) (by omega) (Nat.zero_le _) (Nat.zero_le _) (Nat.le_of_ble_eq_true rfl) (fun r25 V25 h25 => ?_)
      obtain ⟨h25, hX25_0, hX25_1⟩ := h25
      obtain ⟨hW, hx25, hr25⟩ := h25
      have he := he.trans (hx25.sub (jsub_of rfl))
      have hkp := hkp.trans hX25_1
      have ha0 := ha0.mono hx25.1
      have hbm1 := hbm1.mono hx25.1
      have hbm2 := hbm2.mono hx25.1
      have hbm3 := hbm3.mono hx25.1
      have hbm4 := hbm4.mono hx25.1
      have hbm5 := hbm5.mono hx25.1
      have hbm6 := hbm6.mono hx25.1
      have hb25p4 := hb25p4.mono hx25.1
      have hb25p6 := hb25p6.mono hx25.1
      have hb25p7 := hb25p7.mono hx25.1
      have hb25p8 := hb25p8.mono hx25.1
      have hb25p17 := hb25p17.mono hx25.1
      obtain ⟨fs25a0, hOfs25a0, hRfs25a0⟩ := hx25.1.keep hM
      have hKfs25a0 : jokO _ (jFs 5) fs25a0 := hW _ _ id hOfs25a0
      have hFfs25a0_11 := hRfs25a0 _ _ g11
      have hFfs25a0_12 := hRfs25a0 _ _ g12
      have hFfs25a0_13 := hRfs25a0 _ _ g13
      have hFfs25a0_14 := hRfs25a0 _ _ g14
      have hFfs25a0_15 := hRfs25a0 _ _ g15
      have hFfs25a0_16 := hRfs25a0 _ _ g16
      have hFfs25a0_4 := hRfs25a0 _ _ hF25p4
      have hFfs25a0_6 := hRfs25a0 _ _ hF25p6
      have hFfs25a0_7 := hRfs25a0 _ _ hF25p7
      have hFfs25a0_8 := hRfs25a0 _ _ hF25p8
      have hFfs25a0_17 := hRfs25a0 _ _ hF25p17
      cases hr25
      obtain ⟨KN25, CO25, SQ25, RG25, BG25, SE25, b1, b2, b3, b4, b5, b6, hsn, hkn, hmk, hko, hot⟩ := hX25_0
      simp only [he24.eq] at hkn hmk hko hot
      have hct : jRM V25 a0 := jRM.upd (g := x1.toInt.toNat) (n := (x2.toInt - 1).toNat) (by omega) (by omega) m1 m2 m3 m4 m5 m6 he b1 b2 b3 b4 b5 b6 hsn (by rw [hix]; exact hkn) (by rw [hig, hix]; exact hmk) (by rw [hix]; exact hko) (by rw [hix]; exact hot) hmo
      obtain ⟨hN_KN25, hv_KN25⟩ := WT_rngI (r := (0, 1)) hW id rfl b1
      clear hN_KN25
      obtain ⟨hN_CO25, hv_CO25⟩ := WT_rngI (r := ((-2147483648), 2147483647)) hW id rfl b2
      clear hN_CO25
      obtain ⟨hN_RG25, hv_RG25⟩ := WT_rngI (r := ((-2147483648), 2147483647)) hW id rfl b4
      clear hN_RG25
      obtain ⟨hN_BG25, hv_BG25⟩ := WT_rngI (r := ((-2147483648), 2147483647)) hW id rfl b5
      clear hN_BG25
      obtain ⟨hN_SE25, hv_SE25⟩ := WT_rngI (r := (0, 1)) hW id rfl b6
      clear hN_SE25
      refine J_aload_n dX7_rings_28 rfl ?_
      refine J_get jf_X7_41 dX7_rings_29 hOfs25a0 hFfs25a0_12 ?_
      refine Jz_bipush 21 dX7_rings_32 (by decide) (fun y32 he32 => ?_)
      refine J_iload_n dX7_rings_34 rfl ?_
      refine Jz_imul he32 jEq.rf dX7_rings_35 (by omega) (by omega) (fun y35 he35 => ?_)
      refine J_iload_n dX7_rings_36 rfl ?_
      refine Jz_iadd he35 jEq.rf dX7_rings_37 (by omega) (by omega) (fun y37 he37 => ?_)
      refine Jz_iconst 1 dX7_rings_38 (by decide) (fun y38 he38 => ?_)
      refine Jz_isub he37 he38 dX7_rings_39 (by omega) (by omega) (fun y39 he39 => ?_)
      refine Jz_iald (r := ((-2147483648), 2147483647)) he39 dX7_rings_40 b2 rfl hv_CO25 (by omega) (by omega) (fun y40 hf40 hl40 hh40 => ?_)
      dsimp only at hl40 hh40
      clear hl40 hh40
      have e40 : CO25 (21 * x1.toInt + (x2.toInt - 1)).toNat = y40 := by rw [show (21 * x1.toInt + (x2.toInt - 1)).toNat = (21 * x1.toInt + x2.toInt - 1).toNat by omega, hf40]
      refine Jz_bipush (-5) dX7_rings_41 (by decide) (fun y41 he41 => ?_)
      refine Jz_icmp_ne (tgt := 51) jEq.rf he41 dX7_rings_43 (by decide) (fun c43 => ?_) (fun c43 => ?_)
      · refine J_aload_n dX7_rings_51 rfl ?_
        refine J_get jf_X7_48 dX7_rings_52 hOfs25a0 hFfs25a0_14 ?_
        refine Jz_bipush 21 dX7_rings_55 (by decide) (fun y55 he55 => ?_)
        refine J_iload_n dX7_rings_57 rfl ?_
        refine Jz_imul he55 jEq.rf dX7_rings_58 (by omega) (by omega) (fun y58 he58 => ?_)
        refine J_iload_n dX7_rings_59 rfl ?_
        refine Jz_iadd he58 jEq.rf dX7_rings_60 (by omega) (by omega) (fun y60 he60 => ?_)
        refine Jz_iconst 1 dX7_rings_61 (by decide) (fun y61 he61 => ?_)
        refine Jz_isub he60 he61 dX7_rings_62 (by omega) (by omega) (fun y62 he62 => ?_)
        refine Jz_iald (r := ((-2147483648), 2147483647)) he62 dX7_rings_63 b4 rfl hv_RG25 (by omega) (by omega) (fun y63 hf63 hl63 hh63 => ?_)
        dsimp only at hl63 hh63
        clear hl63 hh63
        have e63 : RG25 (21 * x1.toInt + (x2.toInt - 1)).toNat = y63 := by rw [show (21 * x1.toInt + (x2.toInt - 1)).toNat = (21 * x1.toInt + x2.toInt - 1).toNat by omega, hf63]
        exact J_ret (r := some (.int _)) dX7_rings_64 ⟨rfl, _, rfl, rfl⟩ (⟨⟨hW, he, ⟨_, rfl, (j_rng _).1, (j_rng _).2, (Or.inl ⟨(by omega), (hmk.co.elim (fun q => Or.inl ⟨q.1, e63.symm.trans q.2.2.2.2.1⟩) (fun q => absurd (show y40.toInt = -5 by rw [← e40]; exact q.2) (by omega)))⟩)⟩⟩, hct, hkp⟩)
      · refine Jz_bipush (-5) dX7_rings_46 (by decide) (fun y46 he46 => ?_)
        refine J_goto (tgt := 64) dX7_rings_48 (by decide) ?_
        exact J_ret (r := some (.int _)) dX7_rings_64 ⟨rfl, _, rfl, rfl⟩ (⟨⟨hW, he, ⟨_, rfl, (j_rng _).1, (j_rng _).2, (Or.inl ⟨(by omega), (hmk.co.elim (fun q => absurd q.2.1 (by rw [e40]; omega)) (fun q => Or.inr ⟨q.1, he46.eq⟩))⟩)⟩⟩, hct, hkp⟩)
    · refine Jz_bipush (-2) dX7_rings_17 (by decide) (fun y17 he17 => ?_)
      exact J_ret (r := some (.int _)) dX7_rings_19 ⟨rfl, _, rfl, rfl⟩ (⟨⟨hW, he, ⟨_, rfl, (j_rng _).1, (j_rng _).2, (Or.inr ⟨(by omega), he17.eq⟩)⟩⟩, hct, hkp⟩)
set_option maxRecDepth 100000 in
set_option maxHeartbeats 8000000 in
theorem w_X7_bridges_z {tS : jTS} (d : Nat) (V0 : jH) (a0 : Nat) (x1 : Int32) (x2 : Int32) (hd : 3 ≤ d) (hW : WT V0) (ha0 : jis V0 (.inr 5) a0) (hct : jRM V0 a0) : jTot tS mX7_bridges d [.ref a0, .int x1, .int x2] V0 0 0 (fun r V => (jPost [.inr 5, .inl 40, .inl 23, .inl 17, .inl 18, .inl 19, .inl 20, .inl 41, .inl 26, .inl 46, .inl 24, .inl 25] V0 (fun r _ => ∃ y : Int32, r = some (.int y) ∧ ((-2147483648) ≤ y.toInt) ∧ (y.toInt ≤ 2147483647) ∧ (((0 ≤ x1.toInt ∧ x1.toInt ≤ 3 ∧ 1 ≤ x2.toInt ∧ x2.toInt ≤ 20) ∧ ((jTT x1.toInt x2.toInt.toNat jL0 ≤ 600000 ∧ y = (jrq x1.toInt x2.toInt.toNat).2.2.2) ∨ (600000 < jTT x1.toInt x2.toInt.toNat jL0 ∧ y.toInt = -5))) ∨ (¬ (0 ≤ x1.toInt ∧ x1.toInt ≤ 3 ∧ 1 ≤ x2.toInt ∧ x2.toInt ≤ 20) ∧ y.toInt = -2)))) r V ∧ jRM V a0 ∧ jkc 5 [0, 23, 24] V0 V) := by
  refine jTot.of_J [some (.ref a0), some (.int x1), some (.int x2)] moX7_bridges (Nat.le_of_ble_eq_true rfl) rfl ?_
  have hrx1 := j_rng x1
  have hrx2 := j_rng x2
  have he : jeff [.inr 5, .inl 40, .inl 23, .inl 17, .inl 18, .inl 19, .inl 20, .inl 41, .inl 26, .inl 46, .inl 24, .inl 25] V0 V0 := jeff.refl _ _
  have hkp : jkc 5 [0, 23, 24] V0 V0 := jkc.rf
  obtain ⟨kn, co, sq, rg, bg, se, KN, CO, SQ, RG, BG, SE, ⟨m1, m2, m3, m4, m5, m6⟩, ⟨k1, k2, k3, k4, k5, k6⟩, hsn0, hmo⟩ := id hct
  obtain ⟨ms, hM, g11⟩ := id m1
  have g12 := m2.get hM
  have g13 := m3.get hM
  have g14 := m4.get hM
  have g15 := m5.get hM
  have g16 := m6.get hM
  have hKm : jokO V0 (jFs 5) ms := hW _ _ id hM
  have hbm1 : jis V0 (.inl 40) kn := ⟨_, k1, rfl⟩
  have hbm2 : jis V0 (.inl 23) co := ⟨_, k2, rfl⟩
  have hbm3 : jis V0 (.inl 46) sq := ⟨_, k3, rfl⟩
  have hbm4 : jis V0 (.inl 24) rg := ⟨_, k4, rfl⟩
  have hbm5 : jis V0 (.inl 25) bg := ⟨_, k5, rfl⟩
  have hbm6 : jis V0 (.inl 41) se := ⟨_, k6, rfl⟩
  refine J_iload_n dX7_bridges_0 rfl ?_
  refine J_callS1 moX7_isGround jw_ml_X7_184 jw_st_X7_isGround dX7_bridges_1 (w_X7_isGround_y (d - 1) _ x1 (by omega)   ) (by omega) (Nat.zero_le _) (Nat.zero_le _) (Nat.le_of_ble_eq_true rfl) (fun r1 V1 h1 => ?_)
  obtain ⟨⟨y1, rfl, hl1, hh1, hP1_0⟩, hE1⟩ := h1
  have hE1 := hE1.symm
  subst hE1
  refine Jz_if_eq (tgt := 17) jEq.rf dX7_bridges_4 (by decide) (fun c4 => ?_) (fun c4 => ?_)
  · refine Jz_bipush (-2) dX7_bridges_17 (by decide) (fun y17 he17 => ?_)
    exact J_ret (r := some (.int _)) dX7_bridges_19 ⟨rfl, _, rfl, rfl⟩ (⟨⟨hW, he, ⟨_, rfl, (j_rng _).1, (j_rng _).2, (Or.inr ⟨(by omega), he17.eq⟩)⟩⟩, hct, hkp⟩)
  · refine J_iload_n dX7_bridges_7 rfl ?_
    refine Jz_iconst 1 dX7_bridges_8 (by decide) (fun y8 he8 => ?_)
    refine Jz_bipush 20 dX7_bridges_9 (by decide) (fun y9 he9 => ?_)
    refine J_callS3 moX7_in jw_ml_X7_105 jw_st_X7_in dX7_bridges_11 (w_X7_in_y (d - 1) _ x2 y8 y9 (by omega)   ) (by omega) (Nat.zero_le _) (Nat.zero_le _) (Nat.le_of_ble_eq_true rfl) (fun r11 V11 h11 => ?_)
    obtain ⟨⟨y11, rfl, hl11, hh11, hP11_0⟩, hE11⟩ := h11
    have hE11 := hE11.symm
    subst hE11
    try simp only [he8.eq, he9.eq] at hP11_0
    refine Jz_if_ne (tgt := 20) jEq.rf dX7_bridges_14 (by decide) (fun c14 => ?_) (fun c14 => ?_)
    · refine J_aload_n dX7_bridges_20 rfl ?_
      refine J_iload_n dX7_bridges_21 rfl ?_
      refine J_iload_n dX7_bridges_22 rfl ?_
      have hig : ((x1.toInt.toNat : Nat) : Int) = x1.toInt := by omega
      have hix : 21 * x1.toInt.toNat + x2.toInt.toNat = (21 * x1.toInt + x2.toInt).toNat := by omega
      have hmo0 : jmo x1.toInt x2.toInt.toNat KN CO SQ RG BG (21 * x1.toInt + x2.toInt).toNat := by
          have q := hmo x1.toInt.toNat x2.toInt.toNat (by omega) (by omega)
          rw [hig, hix] at q
          exact q
      obtain ⟨w23p4, hF23p4, b23p4, rfl, hb23p4⟩ := hKm.2 4 (.inr (some (.inl 17))) rfl
      obtain ⟨w23p6, hF23p6, b23p6, rfl, hb23p6⟩ := hKm.2 6 (.inr (some (.inl 18))) rfl
      obtain ⟨w23p7, hF23p7, b23p7, rfl, hb23p7⟩ := hKm.2 7 (.inr (some (.inl 19))) rfl
      obtain ⟨w23p8, hF23p8, b23p8, rfl, hb23p8⟩ := hKm.2 8 (.inr (some (.inl 20))) rfl
      obtain ⟨w23p17, hF23p17, b23p17, rfl, hb23p17⟩ := hKm.2 17 (.inr (some (.inl 26))) rfl
      obtain ⟨n23q17, f23q17, hA23q17, hN23q17, hM23q17, hv23q17⟩ := WT_arrI (r := (-2147483648, 2147483647)) hW id rfl hb23p4
      obtain rfl := hM23q17 120 rfl
      clear hN23q17 hM23q17
      obtain ⟨n23q18, f23q18, hA23q18, hN23q18, hM23q18, hv23q18⟩ := WT_arrI (r := (-2147483648, 2147483647)) hW id rfl hb23p6
      obtain rfl := hM23q18 121 rfl
      clear hN23q18 hM23q18
      obtain ⟨n23q19, f23q19, hA23q19, hN23q19, hM23q19, hv23q19⟩ := WT_arrI (r := (-2147483648, 2147483647)) hW id rfl hb23p7
      obtain rfl := hM23q19 121 rfl
      clear hN23q19 hM23q19
      obtain ⟨n23q20, f23q20, hA23q20, hN23q20, hM23q20, hv23q20⟩ := WT_arrI (r := (-2147483648, 2147483647)) hW id rfl hb23p8
      obtain rfl := hM23q20 121 rfl
      clear hN23q20 hM23q20
      obtain ⟨n23q26, f23q26, hA23q26, hN23q26, hM23q26, hv23q26⟩ := WT_arrI (r := (-2147483648, 2147483647)) hW id rfl hb23p17
      obtain rfl := hM23q26 22 rfl
      clear hN23q26 hM23q26
      refine Jw_callV2 (q9 := (RX7, TX7, 34)) moX7_counts jw_ml_X7_187 jw_im_X7_counts jw_se_X7_counts ha0 rfl rfl dX7_bridges_23 (w_X7_counts_z (d - 1) _ a0 x1 x2 b23p4 b23p6 b23p7 b23p8 kn co sq rg bg se b23p17 f23q17 f23q18 f23q19 f23q20 KN CO SQ RG BG SE f23q26 (by omega) hW  ha0 ⟨_, hM, hF23p4⟩ ⟨_, hM, hF23p6⟩ ⟨_, hM, hF23p7⟩ ⟨_, hM, hF23p8⟩ ⟨_, hM, g11⟩ ⟨_, hM, g12⟩ ⟨_, hM, g13⟩ ⟨_, hM, g14⟩ ⟨_, hM, g15⟩ ⟨_, hM, g16⟩ ⟨_, hM, hF23p17⟩ hA23q17 hA23q18 hA23q19 hA23q20 k1 k2 k3 k4 k5 k6 hA23q26 (by omega) (by omega) (by omega) (by omega) hsn0 hmo0) (by omega) (Nat.zero_le _) (Nat.zero_le _) (Nat.le_of_ble_eq_true rfl) (fun r23 V23 h23 => ?_)
      obtain ⟨h23, hX23_0, hX23_1⟩ := h23
      obtain ⟨hW, hx23, hr23⟩ := h23
      have he := he.trans (hx23.sub (jsub_of rfl))
      have hkp := hkp.trans hX23_1
      have ha0 := ha0.mono hx23.1
      have hbm1 := hbm1.mono hx23.1
      have hbm2 := hbm2.mono hx23.1
      have hbm3 := hbm3.mono hx23.1
      have hbm4 := hbm4.mono hx23.1
      have hbm5 := hbm5.mono hx23.1
      have hbm6 := hbm6.mono hx23.1
      have hb23p4 := hb23p4.mono hx23.1
      have hb23p6 := hb23p6.mono hx23.1
      have hb23p7 := hb23p7.mono hx23.1
      have hb23p8 := hb23p8.mono hx23.1
      have hb23p17 := hb23p17.mono hx23.1
      obtain ⟨fs23a0, hOfs23a0, hRfs23a0⟩ := hx23.1.keep hM
      have hKfs23a0 : jokO _ (jFs 5) fs23a0 := hW _ _ id hOfs23a0
      have hFfs23a0_11 := hRfs23a0 _ _ g11
      have hFfs23a0_12 := hRfs23a0 _ _ g12
      have hFfs23a0_13 := hRfs23a0 _ _ g13
      have hFfs23a0_14 := hRfs23a0 _ _ g14
      have hFfs23a0_15 := hRfs23a0 _ _ g15
      have hFfs23a0_16 := hRfs23a0 _ _ g16
      have hFfs23a0_4 := hRfs23a0 _ _ hF23p4
      have hFfs23a0_6 := hRfs23a0 _ _ hF23p6
      have hFfs23a0_7 := hRfs23a0 _ _ hF23p7
      have hFfs23a0_8 := hRfs23a0 _ _ hF23p8
      have hFfs23a0_17 := hRfs23a0 _ _ hF23p17
      cases hr23
      obtain ⟨KN23, CO23, SQ23, RG23, BG23, SE23, b1, b2, b3, b4, b5, b6, hsn, hkn, hmk, hko, hot⟩ := hX23_0
      have hct : jRM V23 a0 := jRM.upd (g := x1.toInt.toNat) (n := x2.toInt.toNat) (by omega) (by omega) m1 m2 m3 m4 m5 m6 he b1 b2 b3 b4 b5 b6 hsn (by rw [hix]; exact hkn) (by rw [hig, hix]; exact hmk) (by rw [hix]; exact hko) (by rw [hix]; exact hot) hmo
      obtain ⟨hN_KN23, hv_KN23⟩ := WT_rngI (r := (0, 1)) hW id rfl b1
      clear hN_KN23
      obtain ⟨hN_CO23, hv_CO23⟩ := WT_rngI (r := ((-2147483648), 2147483647)) hW id rfl b2
      clear hN_CO23
      obtain ⟨hN_RG23, hv_RG23⟩ := WT_rngI (r := ((-2147483648), 2147483647)) hW id rfl b4
      clear hN_RG23
      obtain ⟨hN_BG23, hv_BG23⟩ := WT_rngI (r := ((-2147483648), 2147483647)) hW id rfl b5
      clear hN_BG23
      obtain ⟨hN_SE23, hv_SE23⟩ := WT_rngI (r := (0, 1)) hW id rfl b6
      clear hN_SE23
      refine J_aload_n dX7_bridges_26 rfl ?_
      refine J_get jf_X7_41 dX7_bridges_27 hOfs23a0 hFfs23a0_12 ?_
      refine Jz_bipush 21 dX7_bridges_30 (by decide) (fun y30 he30 => ?_)
      refine J_iload_n dX7_bridges_32 rfl ?_
      refine Jz_imul he30 jEq.rf dX7_bridges_33 (by omega) (by omega) (fun y33 he33 => ?_)
      refine J_iload_n dX7_bridges_34 rfl ?_
      refine Jz_iadd he33 jEq.rf dX7_bridges_35 (by omega) (by omega) (fun y35 he35 => ?_)
      refine Jz_iald (r := ((-2147483648), 2147483647)) he35 dX7_bridges_36 b2 rfl hv_CO23 (by omega) (by omega) (fun y36 hf36 hl36 hh36 => ?_)
      dsimp only at hl36 hh36
      clear hl36 hh36
      have e36 : CO23 (21 * x1.toInt + x2.toInt).toNat = y36 := by rw [hf36]
      refine Jz_bipush (-5) dX7_bridges_37 (by decide) (fun y37 he37 => ?_)
      refine Jz_icmp_ne (tgt := 47) jEq.rf he37 dX7_bridges_39 (by decide) (fun c39 => ?_) (fun c39 => ?_)
      · refine J_aload_n dX7_bridges_47 rfl ?_
        refine J_get jf_X7_51 dX7_bridges_48 hOfs23a0 hFfs23a0_15 ?_
        refine Jz_bipush 21 dX7_bridges_51 (by decide) (fun y51 he51 => ?_)
        refine J_iload_n dX7_bridges_53 rfl ?_
        refine Jz_imul he51 jEq.rf dX7_bridges_54 (by omega) (by omega) (fun y54 he54 => ?_)
        refine J_iload_n dX7_bridges_55 rfl ?_
        refine Jz_iadd he54 jEq.rf dX7_bridges_56 (by omega) (by omega) (fun y56 he56 => ?_)
        refine Jz_iald (r := ((-2147483648), 2147483647)) he56 dX7_bridges_57 b5 rfl hv_BG23 (by omega) (by omega) (fun y57 hf57 hl57 hh57 => ?_)
        dsimp only at hl57 hh57
        clear hl57 hh57
        have e57 : BG23 (21 * x1.toInt + x2.toInt).toNat = y57 := by rw [hf57]
        exact J_ret (r := some (.int _)) dX7_bridges_58 ⟨rfl, _, rfl, rfl⟩ (⟨⟨hW, he, ⟨_, rfl, (j_rng _).1, (j_rng _).2, (Or.inl ⟨(by omega), (hmk.co.elim (fun q => Or.inl ⟨q.1, e57.symm.trans q.2.2.2.2.2⟩) (fun q => absurd (show y36.toInt = -5 by rw [← e36]; exact q.2) (by omega)))⟩)⟩⟩, hct, hkp⟩)
      · refine Jz_bipush (-5) dX7_bridges_42 (by decide) (fun y42 he42 => ?_)
        refine J_goto (tgt := 58) dX7_bridges_44 (by decide) ?_
        exact J_ret (r := some (.int _)) dX7_bridges_58 ⟨rfl, _, rfl, rfl⟩ (⟨⟨hW, he, ⟨_, rfl, (j_rng _).1, (j_rng _).2, (Or.inl ⟨(by omega), (hmk.co.elim (fun q => absurd q.2.1 (by rw [e36]; omega)) (fun q => Or.inr ⟨q.1, he42.eq⟩))⟩)⟩⟩, hct, hkp⟩)
    · refine Jz_bipush (-2) dX7_bridges_17 (by decide) (fun y17 he17 => ?_)
      exact J_ret (r := some (.int _)) dX7_bridges_19 ⟨rfl, _, rfl, rfl⟩ (⟨⟨hW, he, ⟨_, rfl, (j_rng _).1, (j_rng _).2, (Or.inr ⟨(by omega), he17.eq⟩)⟩⟩, hct, hkp⟩)
set_option maxRecDepth 100000 in
set_option maxHeartbeats 4000000 in
theorem w_X6_init_t {tS : jTS} (d : Nat) (V0 : jH) (q : Nat)  (hd : 4 ≤ d) (hW : WTx (fun a => False ∨ a = q) V0) (hq : V0 q = some (.inr (4, [.null, .int 0, .null, .null, .null, .null, .null])))   : jTot tS mX6_init d [.ref q] V0 11 676 (fun r V => r = none ∧ WTx (fun _ => False) V ∧ jeff [.inr 4, .inr 1, .inr 0] V0 V ∧ jis V (.inr 4) q ∧ jfI V q 4 1 0 ∧ (jpx V q ∧ jtx V q ∧ jff V q ∧ jTL V q ∧ jTF V q)) := by
  refine jTot.of_J [some (.ref q)] moX6_init (Nat.le_of_ble_eq_true rfl) rfl ?_
  have he : jeff [.inr 4, .inr 1, .inr 0] V0 V0 := jeff.refl _ _
  refine J_aload_n dX6_init_0 rfl ?_
  refine J_objInit jw_ml_X6_1 jw_oi2 jw_oi3 dX6_init_1 (by omega) (Nat.le_of_ble_eq_true rfl) ?_
  refine J_aload_n dX6_init_4 rfl ?_
  refine J_bipush (v := 16) dX6_init_5 (by decide) ?_
  refine Jc_newq (N := 16) jw_cl_X6_9 (by decide) (t := 4) rfl dX6_init_7 (by decide) (by decide) (by decide) (jok_zR rfl (fun m h => by cases h <;> rfl) (by decide)) (by decide) (by decide) hW (fun b7 V7 hn7 hb7 hk7 hW hx7 => ?_)
  have hz7 := he.1.none hn7
  have he := he.trans (hx7.sub (jsub_of rfl))
  have hq := hk7 _ _ hq
  refine Jc_putF jf_X6_11 jt_X6_0 rfl (fun _ h => by cases h; rfl) dX6_init_10 hq rfl rfl (Nat.le_of_ble_eq_true rfl) (fun _ h => by cases h) hW (fun V10 hq hW hx10 hB10 => ?_)
  have he := he.trans (hx10.sub (jsub_of rfl))
  have hb7 := hb7.mono hx10.1
  refine J_aload_n dX6_init_13 rfl ?_
  refine J_iconst (v := 0) dX6_init_14 (by decide) ?_
  refine Jc_put jf_X6_15 jt_X6_1 dX6_init_15 hq rfl rfl (Nat.le_of_ble_eq_true rfl) (fun _ h => by cases h) hW (fun V15 hq hW hx15 hB15 => ?_)
  have he := he.trans (hx15.sub (jsub_of rfl))
  have hb7 := hb7.mono hx15.1
  refine J_aload_n dX6_init_18 rfl ?_
  refine Jc_new jn_X6_9 dX6_init_19 (by decide) (by decide) hW (fun q19 V19 hn19 hQ19 hk19 hW hx19 => ?_)
  have hne19 : q19 ≠ q := fun z => by rw [z, hq] at hn19; cases hn19
  have hz19 := he.1.none hn19
  have he := he.trans (hx19.sub (jsub_of rfl))
  have hb7 := hb7.mono hx19.1
  have hq := hk19 _ _ hq
  refine J_dup dX6_init_22 rfl ?_
  refine J_bipush (v := 120) dX6_init_23 (by decide) ?_
  refine J_callI1 moX3_init rfl rfl jw_ml_X6_19 jw_im_X3_init dX6_init_25 (w_X3_init (d - 1) _ (fun a => False ∨ a = q) _ _ (by omega) hW hQ19 (fun z => z.elim id hne19) ) (by omega) (by decide) (by decide) (Nat.le_of_ble_eq_true rfl) (fun r25 V25 h25 => ?_)
  obtain ⟨rfl, hW, hx25, hj25, hxc25⟩ := h25
  have he := he.trans (hx25.sub (jsub_of rfl))
  have hb7 := hb7.mono hx25.1
  have hq := hx25.2 _ _ hq (jnot_of rfl)
  obtain ⟨s9, x9, y9, z9, -, hjw, -⟩ := hxc25
  rw [show (jmost 120).toInt.toNat = 120 by decide] at hjw
  refine Jc_putF jf_X6_22 jt_X6_2 rfl (fun _ h => by cases h; rfl) dX6_init_28 hq rfl rfl (Nat.le_of_ble_eq_true rfl) (fun _ h => by cases h) hW (fun V28 hq hW hx28 hB28 => ?_)
  have he := he.trans (hx28.sub (jsub_of rfl))
  have hb7 := hb7.mono hx28.1
  have hj25 := hj25.mono hx28.1
  refine J_aload_n dX6_init_31 rfl ?_
  refine J_bipush (v := 60) dX6_init_32 (by decide) ?_
  refine Jc_newa (atype := .int) (t := 7) (B := 60) (x := .inl (fun _ => 0)) jw_ac_int rfl (fun _ h => by cases h) (by decide) dX6_init_34 (by decide) (by decide) (by decide) (fun _ _ => rfl) (fun hN => jok_zI rfl (by decide) (by decide) (fun m h => by cases h <;> rfl) hN) (by decide) (by decide) hW (fun b34 V34 hn34 hb34 hk34 hW hx34 => ?_)
  have hz34 := he.1.none hn34
  have he := he.trans (hx34.sub (jsub_of rfl))
  have hb7 := hb7.mono hx34.1
  have hj25 := hj25.mono hx34.1
  have hq := hk34 _ _ hq
  refine Jc_putF jf_X6_26 jt_X6_3 rfl (fun _ h => by cases h; rfl) dX6_init_36 hq rfl rfl (Nat.le_of_ble_eq_true rfl) (fun _ h => by cases h) hW (fun V36 hq hW hx36 hB36 => ?_)
  have he := he.trans (hx36.sub (jsub_of rfl))
  have hb7 := hb7.mono hx36.1
  have hj25 := hj25.mono hx36.1
  have hb34 := hb34.mono hx36.1
  refine J_aload_n dX6_init_39 rfl ?_
  refine J_bipush (v := 60) dX6_init_40 (by decide) ?_
  obtain ⟨e34, h34e, -⟩ := id hb34
  refine Jc_newa (atype := .int) (t := 7) (B := 60) (x := .inl (fun _ => 0)) jw_ac_int rfl (fun _ h => by cases h) (by decide) dX6_init_42 (by decide) (by decide) (by decide) (fun _ _ => rfl) (fun hN => jok_zI rfl (by decide) (by decide) (fun m h => by cases h <;> rfl) hN) (by decide) (by decide) hW (fun b42 V42 hn42 hb42 hk42 hW hx42 => ?_)
  have hz42 := he.1.none hn42
  have he := he.trans (hx42.sub (jsub_of rfl))
  have hb7 := hb7.mono hx42.1
  have hj25 := hj25.mono hx42.1
  have hb34 := hb34.mono hx42.1
  have hq := hk42 _ _ hq
  have hne9 : b34 ≠ b42 := fun z => by rw [z, hn42] at h34e; cases h34e
  refine Jc_putF jf_X6_30 jt_X6_4 rfl (fun _ h => by cases h; rfl) dX6_init_44 hq rfl rfl (Nat.le_of_ble_eq_true rfl) (fun _ h => by cases h) hW (fun V44 hq hW hx44 hB44 => ?_)
  have he := he.trans (hx44.sub (jsub_of rfl))
  have hb7 := hb7.mono hx44.1
  have hj25 := hj25.mono hx44.1
  have hb34 := hb34.mono hx44.1
  have hb42 := hb42.mono hx44.1
  refine J_aload_n dX6_init_47 rfl ?_
  refine J_iconst (v := 4) dX6_init_48 (by decide) ?_
  refine Jc_newqx (N := 4) jw_cl_X6_33 (by decide) (t := 5) rfl dX6_init_49 (by decide) (by decide) (by decide) (jok_zR rfl (fun m h => by cases h <;> rfl) (by decide)) (by decide) (by decide) hW (fun b49 V49 hn49 hb49 hk49 hW hx49 hA49 => ?_)
  have hz49 := he.1.none hn49
  have he := he.trans (hx49.sub (jsub_of rfl))
  have hb7 := hb7.mono hx49.1
  have hj25 := hj25.mono hx49.1
  have hb34 := hb34.mono hx49.1
  have hb42 := hb42.mono hx49.1
  have hq := hk49 _ _ hq
  refine Jc_putF jf_X6_35 jt_X6_5 rfl (fun _ h => by cases h; rfl) dX6_init_52 hq rfl rfl (Nat.le_of_ble_eq_true rfl) (fun _ h => by cases h) hW (fun V52 hq hW hx52 hB52 => ?_)
  have he := he.trans (hx52.sub (jsub_of rfl))
  have hb7 := hb7.mono hx52.1
  have hj25 := hj25.mono hx52.1
  have hb34 := hb34.mono hx52.1
  have hb42 := hb42.mono hx52.1
  have hb49 := hb49.mono hx52.1
  have hA49 := hx52.2 _ _ hA49 (jnot_of rfl)
  refine J_aload_n dX6_init_55 rfl ?_
  refine Jc_new jn_X6_39 dX6_init_56 (by decide) (by decide) hW (fun q56 V56 hn56 hQ56 hk56 hW hx56 => ?_)
  have hne56 : q56 ≠ q := fun z => by rw [z, hq] at hn56; cases hn56
  have hz56 := he.1.none hn56
  have he := he.trans (hx56.sub (jsub_of rfl))
  have hb7 := hb7.mono hx56.1
  have hj25 := hj25.mono hx56.1
  have hb34 := hb34.mono hx56.1
  have hb42 := hb42.mono hx56.1
  have hb49 := hb49.mono hx56.1
  have hq := hk56 _ _ hq
  have hA49 := hk56 _ _ hA49
  refine J_dup dX6_init_59 rfl ?_
  refine J_callI0 moX2_init rfl rfl jw_ml_X6_41 jw_im_X2_init dX6_init_60 (w_X2_init (d - 1) _ (fun a => False ∨ a = q) _ (by omega) hW hQ56 (fun z => z.elim id hne56) ) (by omega) (by decide) (by decide) (Nat.le_of_ble_eq_true rfl) (fun r60 V60 h60 => ?_)
  obtain ⟨rfl, hW, hx60, hj60, hxc60⟩ := h60
  have he := he.trans (hx60.sub (jsub_of rfl))
  have hb7 := hb7.mono hx60.1
  have hj25 := hj25.mono hx60.1
  have hb34 := hb34.mono hx60.1
  have hb42 := hb42.mono hx60.1
  have hb49 := hb49.mono hx60.1
  have hA49 := hx60.2 _ _ hA49 (jnot_of rfl)
  have hq := hx60.2 _ _ hq (jnot_of rfl)
  refine Jc_putF jf_X6_42 jt_X6_6 rfl (fun _ h => by cases h; rfl) dX6_init_63 hq rfl rfl (Nat.le_of_ble_eq_true rfl) (fun _ h => by cases h) hW (fun V63 hq hW hx63 hB63 => ?_)
  have he := he.trans (hx63.sub (jsub_of rfl))
  have hb7 := hb7.mono hx63.1
  have hj25 := hj25.mono hx63.1
  have hb34 := hb34.mono hx63.1
  have hb42 := hb42.mono hx63.1
  have hb49 := hb49.mono hx63.1
  have hj60 := hj60.mono hx63.1
  have hA49 := hx63.2 _ _ hA49 (jnot_of rfl)
  exact J_ret (r := none) dX6_init_66 ⟨rfl, rfl⟩ (⟨rfl, hW.fin hq (jokO_cons ⟨_, rfl, hb7⟩ (jokO_cons ⟨_, rfl, by first | decide | assumption | omega, by first | decide | assumption | omega⟩ (jokO_cons ⟨_, rfl, hj25⟩ (jokO_cons ⟨_, rfl, hb34⟩ (jokO_cons ⟨_, rfl, hb42⟩ (jokO_cons ⟨_, rfl, hb49⟩ (jokO_cons ⟨_, rfl, hj60⟩ (jokO_nil)))))))), he, ⟨_, hq, rfl⟩, ⟨_, hq, rfl⟩, ⟨⟨_, _, hq, rfl, hxc60.keep hx63 (jnot_of rfl)⟩, ⟨q19, s9, x9, y9, z9, ⟨_, hq, rfl⟩, ((((((((((hjw.keep hx28 (jdis_of rfl)).keep hx34 (jdis_of rfl)).keep hx36 (jdis_of rfl)).keep hx42 (jdis_of rfl)).keep hx44 (jdis_of rfl)).keep hx49 (jdis_of rfl)).keep hx52 (jdis_of rfl)).keep hx56 (jdis_of rfl)).keep hx60 (jdis_of rfl)).keep hx63 (jdis_of rfl))⟩, ⟨b34, b42, ⟨_, hq, rfl⟩, ⟨_, hq, rfl⟩, hne9⟩, jTL.init hq rfl hA49, jTF.init hq rfl hA49⟩⟩)
set_option maxRecDepth 100000 in
set_option maxHeartbeats 4000000 in
theorem w_X7_init_t {tS : jTS} (d : Nat) (V0 : jH) (q : Nat)  (hd : 1 ≤ d) (hW : WTx (fun a => False ∨ a = q) V0) (hq : V0 q = some (.inr (5, [.int 0, .null, .null, .null, .null, .int 0, .null, .null, .null, .null, .null, .null, .null, .null, .null, .null, .null, .null, .null, .null, .null, .null, .int 0, .int 0, .int 0, .null, .int 0, .int 0, .int 0, .null, .null, .null, .null, .null])))   : jTot tS mX7_init d [.ref q] V0 26 101822 (fun r V => r = none ∧ WTx (fun _ => False) V ∧ jeff [.inr 5] V0 V ∧ jis V (.inr 5) q ∧ jfI V q 5 0 0 ∧ jfI V q 5 23 2 ∧ jfI V q 5 24 2 ∧ (jmx V q ∧ jRM V q ∧ jRF V q)) := by
  refine jTot.of_J [some (.ref q)] moX7_init (Nat.le_of_ble_eq_true rfl) rfl ?_
  have he : jeff [.inr 5] V0 V0 := jeff.refl _ _
  refine J_aload_n dX7_init_0 rfl ?_
  refine J_objInit jw_ml_X7_1 jw_oi2 jw_oi3 dX7_init_1 (by omega) (Nat.le_of_ble_eq_true rfl) ?_
  refine J_aload_n dX7_init_4 rfl ?_
  refine J_bipush (v := 16) dX7_init_5 (by decide) ?_
  refine Jc_newa (atype := .int) (t := 14) (B := 16) (x := .inl (fun _ => 0)) jw_ac_int rfl (fun _ h => by cases h) (by decide) dX7_init_7 (by decide) (by decide) (by decide) (fun _ _ => rfl) (fun hN => jok_zI rfl (by decide) (by decide) (fun m h => by cases h <;> rfl) hN) (by decide) (by decide) hW (fun b7 V7 hn7 hb7 hk7 hW hx7 => ?_)
  have hz7 := he.1.none hn7
  have he := he.trans (hx7.sub (jsub_of rfl))
  have hq := hk7 _ _ hq
  refine Jc_putF jf_X7_7 jt_X7_1 rfl (fun _ h => by cases h; rfl) dX7_init_9 hq rfl rfl (Nat.le_of_ble_eq_true rfl) (fun _ h => by cases h) hW (fun V9 hq hW hx9 hB9 => ?_)
  have hq : V9 q = some (.inr (5, [.int 0, .ref b7, .null, .null, .null, .int 0, .null, .null, .null, .null, .null, .null, .null, .null, .null, .null, .null, .null, .null, .null, .null, .null, .int 0, .int 0, .int 0, .null, .int 0, .int 0, .int 0, .null, .null, .null, .null, .null])) := hq
  have he := he.trans (hx9.sub (jsub_of rfl))
  have hb7 := hb7.mono hx9.1
  refine J_aload_n dX7_init_12 rfl ?_
  refine J_bipush (v := 16) dX7_init_13 (by decide) ?_
  refine Jc_newa (atype := .int) (t := 15) (B := 16) (x := .inl (fun _ => 0)) jw_ac_int rfl (fun _ h => by cases h) (by decide) dX7_init_15 (by decide) (by decide) (by decide) (fun _ _ => rfl) (fun hN => jok_zI rfl (by decide) (by decide) (fun m h => by cases h <;> rfl) hN) (by decide) (by decide) hW (fun b15 V15 hn15 hb15 hk15 hW hx15 => ?_)
  have hz15 := he.1.none hn15
  have he := he.trans (hx15.sub (jsub_of rfl))
  have hb7 := hb7.mono hx15.1
  have hq := hk15 _ _ hq
  refine Jc_putF jf_X7_13 jt_X7_2 rfl (fun _ h => by cases h; rfl) dX7_init_17 hq rfl rfl (Nat.le_of_ble_eq_true rfl) (fun _ h => by cases h) hW (fun V17 hq hW hx17 hB17 => ?_)
  have hq : V17 q = some (.inr (5, [.int 0, .ref b7, .ref b15, .null, .null, .int 0, .null, .null, .null, .null, .null, .null, .null, .null, .null, .null, .null, .null, .null, .null, .null, .null, .int 0, .int 0, .int 0, .null, .int 0, .int 0, .int 0, .null, .null, .null, .null, .null])) := hq
  have he := he.trans (hx17.sub (jsub_of rfl))
  have hb7 := hb7.mono hx17.1
  have hb15 := hb15.mono hx17.1
  refine J_aload_n dX7_init_20 rfl ?_
  refine J_sipush (v := 960) dX7_init_21 (by decide) ?_
  refine Jc_newa (atype := .int) (t := 16) (B := 960) (x := .inl (fun _ => 0)) jw_ac_int rfl (fun _ h => by cases h) (by decide) dX7_init_24 (by decide) (by decide) (by decide) (fun _ _ => rfl) (fun hN => jok_zI rfl (by decide) (by decide) (fun m h => by cases h <;> rfl) hN) (by decide) (by decide) hW (fun b24 V24 hn24 hb24 hk24 hW hx24 => ?_)
  have hz24 := he.1.none hn24
  have he := he.trans (hx24.sub (jsub_of rfl))
  have hb7 := hb7.mono hx24.1
  have hb15 := hb15.mono hx24.1
  have hq := hk24 _ _ hq
  refine Jc_putF jf_X7_16 jt_X7_3 rfl (fun _ h => by cases h; rfl) dX7_init_26 hq rfl rfl (Nat.le_of_ble_eq_true rfl) (fun _ h => by cases h) hW (fun V26 hq hW hx26 hB26 => ?_)
  have hq : V26 q = some (.inr (5, [.int 0, .ref b7, .ref b15, .ref b24, .null, .int 0, .null, .null, .null, .null, .null, .null, .null, .null, .null, .null, .null, .null, .null, .null, .null, .null, .int 0, .int 0, .int 0, .null, .int 0, .int 0, .int 0, .null, .null, .null, .null, .null])) := hq
  have he := he.trans (hx26.sub (jsub_of rfl))
  have hb7 := hb7.mono hx26.1
  have hb15 := hb15.mono hx26.1
  have hb24 := hb24.mono hx26.1
  refine J_aload_n dX7_init_29 rfl ?_
  refine J_bipush (v := 120) dX7_init_30 (by decide) ?_
  refine Jc_newa (atype := .int) (t := 17) (B := 120) (x := .inl (fun _ => 0)) jw_ac_int rfl (fun _ h => by cases h) (by decide) dX7_init_32 (by decide) (by decide) (by decide) (fun _ _ => rfl) (fun hN => jok_zI rfl (by decide) (by decide) (fun m h => by cases h <;> rfl) hN) (by decide) (by decide) hW (fun b32 V32 hn32 hb32 hk32 hW hx32 => ?_)
  have hz32 := he.1.none hn32
  have he := he.trans (hx32.sub (jsub_of rfl))
  have hb7 := hb7.mono hx32.1
  have hb15 := hb15.mono hx32.1
  have hb24 := hb24.mono hx32.1
  have hq := hk32 _ _ hq
  refine Jc_putF jf_X7_19 jt_X7_4 rfl (fun _ h => by cases h; rfl) dX7_init_34 hq rfl rfl (Nat.le_of_ble_eq_true rfl) (fun _ h => by cases h) hW (fun V34 hq hW hx34 hB34 => ?_)
  have hq : V34 q = some (.inr (5, [.int 0, .ref b7, .ref b15, .ref b24, .ref b32, .int 0, .null, .null, .null, .null, .null, .null, .null, .null, .null, .null, .null, .null, .null, .null, .null, .null, .int 0, .int 0, .int 0, .null, .int 0, .int 0, .int 0, .null, .null, .null, .null, .null])) := hq
  have he := he.trans (hx34.sub (jsub_of rfl))
  have hb7 := hb7.mono hx34.1
  have hb15 := hb15.mono hx34.1
  have hb24 := hb24.mono hx34.1
  have hb32 := hb32.mono hx34.1
  refine J_aload_n dX7_init_37 rfl ?_
  refine J_bipush (v := 121) dX7_init_38 (by decide) ?_
  refine Jc_newa (atype := .int) (t := 18) (B := 121) (x := .inl (fun _ => 0)) jw_ac_int rfl (fun _ h => by cases h) (by decide) dX7_init_40 (by decide) (by decide) (by decide) (fun _ _ => rfl) (fun hN => jok_zI rfl (by decide) (by decide) (fun m h => by cases h <;> rfl) hN) (by decide) (by decide) hW (fun b40 V40 hn40 hb40 hk40 hW hx40 => ?_)
  have hz40 := he.1.none hn40
  have he := he.trans (hx40.sub (jsub_of rfl))
  have hb7 := hb7.mono hx40.1
  have hb15 := hb15.mono hx40.1
  have hb24 := hb24.mono hx40.1
  have hb32 := hb32.mono hx40.1
  have hq := hk40 _ _ hq
  refine Jc_putF jf_X7_22 jt_X7_6 rfl (fun _ h => by cases h; rfl) dX7_init_42 hq rfl rfl (Nat.le_of_ble_eq_true rfl) (fun _ h => by cases h) hW (fun V42 hq hW hx42 hB42 => ?_)
  have hq : V42 q = some (.inr (5, [.int 0, .ref b7, .ref b15, .ref b24, .ref b32, .int 0, .ref b40, .null, .null, .null, .null, .null, .null, .null, .null, .null, .null, .null, .null, .null, .null, .null, .int 0, .int 0, .int 0, .null, .int 0, .int 0, .int 0, .null, .null, .null, .null, .null])) := hq
  have he := he.trans (hx42.sub (jsub_of rfl))
  have hb7 := hb7.mono hx42.1
  have hb15 := hb15.mono hx42.1
  have hb24 := hb24.mono hx42.1
  have hb32 := hb32.mono hx42.1
  have hb40 := hb40.mono hx42.1
  refine J_aload_n dX7_init_45 rfl ?_
  refine J_bipush (v := 121) dX7_init_46 (by decide) ?_
  refine Jc_newa (atype := .int) (t := 19) (B := 121) (x := .inl (fun _ => 0)) jw_ac_int rfl (fun _ h => by cases h) (by decide) dX7_init_48 (by decide) (by decide) (by decide) (fun _ _ => rfl) (fun hN => jok_zI rfl (by decide) (by decide) (fun m h => by cases h <;> rfl) hN) (by decide) (by decide) hW (fun b48 V48 hn48 hb48 hk48 hW hx48 => ?_)
  have hz48 := he.1.none hn48
  have he := he.trans (hx48.sub (jsub_of rfl))
  have hb7 := hb7.mono hx48.1
  have hb15 := hb15.mono hx48.1
  have hb24 := hb24.mono hx48.1
  have hb32 := hb32.mono hx48.1
  have hb40 := hb40.mono hx48.1
  have hq := hk48 _ _ hq
  refine Jc_putF jf_X7_25 jt_X7_7 rfl (fun _ h => by cases h; rfl) dX7_init_50 hq rfl rfl (Nat.le_of_ble_eq_true rfl) (fun _ h => by cases h) hW (fun V50 hq hW hx50 hB50 => ?_)
  have hq : V50 q = some (.inr (5, [.int 0, .ref b7, .ref b15, .ref b24, .ref b32, .int 0, .ref b40, .ref b48, .null, .null, .null, .null, .null, .null, .null, .null, .null, .null, .null, .null, .null, .null, .int 0, .int 0, .int 0, .null, .int 0, .int 0, .int 0, .null, .null, .null, .null, .null])) := hq
  have he := he.trans (hx50.sub (jsub_of rfl))
  have hb7 := hb7.mono hx50.1
  have hb15 := hb15.mono hx50.1
  have hb24 := hb24.mono hx50.1
  have hb32 := hb32.mono hx50.1
  have hb40 := hb40.mono hx50.1
  have hb48 := hb48.mono hx50.1
  refine J_aload_n dX7_init_53 rfl ?_
  refine J_bipush (v := 121) dX7_init_54 (by decide) ?_
  refine Jc_newa (atype := .int) (t := 20) (B := 121) (x := .inl (fun _ => 0)) jw_ac_int rfl (fun _ h => by cases h) (by decide) dX7_init_56 (by decide) (by decide) (by decide) (fun _ _ => rfl) (fun hN => jok_zI rfl (by decide) (by decide) (fun m h => by cases h <;> rfl) hN) (by decide) (by decide) hW (fun b56 V56 hn56 hb56 hk56 hW hx56 => ?_)
  have hz56 := he.1.none hn56
  have he := he.trans (hx56.sub (jsub_of rfl))
  have hb7 := hb7.mono hx56.1
  have hb15 := hb15.mono hx56.1
  have hb24 := hb24.mono hx56.1
  have hb32 := hb32.mono hx56.1
  have hb40 := hb40.mono hx56.1
  have hb48 := hb48.mono hx56.1
  have hq := hk56 _ _ hq
  refine Jc_putF jf_X7_28 jt_X7_8 rfl (fun _ h => by cases h; rfl) dX7_init_58 hq rfl rfl (Nat.le_of_ble_eq_true rfl) (fun _ h => by cases h) hW (fun V58 hq hW hx58 hB58 => ?_)
  have hq : V58 q = some (.inr (5, [.int 0, .ref b7, .ref b15, .ref b24, .ref b32, .int 0, .ref b40, .ref b48, .ref b56, .null, .null, .null, .null, .null, .null, .null, .null, .null, .null, .null, .null, .null, .int 0, .int 0, .int 0, .null, .int 0, .int 0, .int 0, .null, .null, .null, .null, .null])) := hq
  have he := he.trans (hx58.sub (jsub_of rfl))
  have hb7 := hb7.mono hx58.1
  have hb15 := hb15.mono hx58.1
  have hb24 := hb24.mono hx58.1
  have hb32 := hb32.mono hx58.1
  have hb40 := hb40.mono hx58.1
  have hb48 := hb48.mono hx58.1
  have hb56 := hb56.mono hx58.1
  refine J_aload_n dX7_init_61 rfl ?_
  refine J_bipush (v := 60) dX7_init_62 (by decide) ?_
  refine Jc_newa (atype := .int) (t := 21) (B := 60) (x := .inl (fun _ => 0)) jw_ac_int rfl (fun _ h => by cases h) (by decide) dX7_init_64 (by decide) (by decide) (by decide) (fun _ _ => rfl) (fun hN => jok_zI rfl (by decide) (by decide) (fun m h => by cases h <;> rfl) hN) (by decide) (by decide) hW (fun b64 V64 hn64 hb64 hk64 hW hx64 => ?_)
  have hz64 := he.1.none hn64
  have he := he.trans (hx64.sub (jsub_of rfl))
  have hb7 := hb7.mono hx64.1
  have hb15 := hb15.mono hx64.1
  have hb24 := hb24.mono hx64.1
  have hb32 := hb32.mono hx64.1
  have hb40 := hb40.mono hx64.1
  have hb48 := hb48.mono hx64.1
  have hb56 := hb56.mono hx64.1
  have hq := hk64 _ _ hq
  refine Jc_putF jf_X7_31 jt_X7_9 rfl (fun _ h => by cases h; rfl) dX7_init_66 hq rfl rfl (Nat.le_of_ble_eq_true rfl) (fun _ h => by cases h) hW (fun V66 hq hW hx66 hB66 => ?_)
  have hq : V66 q = some (.inr (5, [.int 0, .ref b7, .ref b15, .ref b24, .ref b32, .int 0, .ref b40, .ref b48, .ref b56, .ref b64, .null, .null, .null, .null, .null, .null, .null, .null, .null, .null, .null, .null, .int 0, .int 0, .int 0, .null, .int 0, .int 0, .int 0, .null, .null, .null, .null, .null])) := hq
  have he := he.trans (hx66.sub (jsub_of rfl))
  have hb7 := hb7.mono hx66.1
  have hb15 := hb15.mono hx66.1
  have hb24 := hb24.mono hx66.1
  have hb32 := hb32.mono hx66.1
  have hb40 := hb40.mono hx66.1
  have hb48 := hb48.mono hx66.1
  have hb56 := hb56.mono hx66.1
  have hb64 := hb64.mono hx66.1
  refine J_aload_n dX7_init_69 rfl ?_
  refine J_bipush (v := 60) dX7_init_70 (by decide) ?_
  refine Jc_newa (atype := .int) (t := 22) (B := 60) (x := .inl (fun _ => 0)) jw_ac_int rfl (fun _ h => by cases h) (by decide) dX7_init_72 (by decide) (by decide) (by decide) (fun _ _ => rfl) (fun hN => jok_zI rfl (by decide) (by decide) (fun m h => by cases h <;> rfl) hN) (by decide) (by decide) hW (fun b72 V72 hn72 hb72 hk72 hW hx72 => ?_)
  have hz72 := he.1.none hn72
  have he := he.trans (hx72.sub (jsub_of rfl))
  have hb7 := hb7.mono hx72.1
  have hb15 := hb15.mono hx72.1
  have hb24 := hb24.mono hx72.1
  have hb32 := hb32.mono hx72.1
  have hb40 := hb40.mono hx72.1
  have hb48 := hb48.mono hx72.1
  have hb56 := hb56.mono hx72.1
  have hb64 := hb64.mono hx72.1
  have hq := hk72 _ _ hq
  refine Jc_putF jf_X7_34 jt_X7_10 rfl (fun _ h => by cases h; rfl) dX7_init_74 hq rfl rfl (Nat.le_of_ble_eq_true rfl) (fun _ h => by cases h) hW (fun V74 hq hW hx74 hB74 => ?_)
  have hq : V74 q = some (.inr (5, [.int 0, .ref b7, .ref b15, .ref b24, .ref b32, .int 0, .ref b40, .ref b48, .ref b56, .ref b64, .ref b72, .null, .null, .null, .null, .null, .null, .null, .null, .null, .null, .null, .int 0, .int 0, .int 0, .null, .int 0, .int 0, .int 0, .null, .null, .null, .null, .null])) := hq
  have he := he.trans (hx74.sub (jsub_of rfl))
  have hb7 := hb7.mono hx74.1
  have hb15 := hb15.mono hx74.1
  have hb24 := hb24.mono hx74.1
  have hb32 := hb32.mono hx74.1
  have hb40 := hb40.mono hx74.1
  have hb48 := hb48.mono hx74.1
  have hb56 := hb56.mono hx74.1
  have hb64 := hb64.mono hx74.1
  have hb72 := hb72.mono hx74.1
  refine J_aload_n dX7_init_77 rfl ?_
  refine J_bipush (v := 84) dX7_init_78 (by decide) ?_
  refine Jc_newax (atype := .boolean) (t := 40) (B := 84) (x := .inl (fun _ => 0)) jw_ac_boolean rfl (fun _ h => by cases h) (by decide) dX7_init_80 (by decide) (by decide) (by decide) (fun _ _ => rfl) (fun hN => jok_zI rfl (by decide) (by decide) (fun m h => by cases h <;> rfl) hN) (by decide) (by decide) hW (fun b80 V80 hn80 hb80 hk80 hW hx80 hA80 => ?_)
  have hz80 := he.1.none hn80
  have he := he.trans (hx80.sub (jsub_of rfl))
  have hb7 := hb7.mono hx80.1
  have hb15 := hb15.mono hx80.1
  have hb24 := hb24.mono hx80.1
  have hb32 := hb32.mono hx80.1
  have hb40 := hb40.mono hx80.1
  have hb48 := hb48.mono hx80.1
  have hb56 := hb56.mono hx80.1
  have hb64 := hb64.mono hx80.1
  have hb72 := hb72.mono hx80.1
  have hq := hk80 _ _ hq
  have hA80 : V80 b80 = some (.inl (40, 84, .inl (fun _ => 0))) := hA80
  refine Jc_putF jf_X7_37 jt_X7_11 rfl (fun _ h => by cases h; rfl) dX7_init_82 hq rfl rfl (Nat.le_of_ble_eq_true rfl) (fun _ h => by cases h) hW (fun V82 hq hW hx82 hB82 => ?_)
  have hq : V82 q = some (.inr (5, [.int 0, .ref b7, .ref b15, .ref b24, .ref b32, .int 0, .ref b40, .ref b48, .ref b56, .ref b64, .ref b72, .ref b80, .null, .null, .null, .null, .null, .null, .null, .null, .null, .null, .int 0, .int 0, .int 0, .null, .int 0, .int 0, .int 0, .null, .null, .null, .null, .null])) := hq
  have he := he.trans (hx82.sub (jsub_of rfl))
  have hb7 := hb7.mono hx82.1
  have hb15 := hb15.mono hx82.1
  have hb24 := hb24.mono hx82.1
  have hb32 := hb32.mono hx82.1
  have hb40 := hb40.mono hx82.1
  have hb48 := hb48.mono hx82.1
  have hb56 := hb56.mono hx82.1
  have hb64 := hb64.mono hx82.1
  have hb72 := hb72.mono hx82.1
  have hb80 := hb80.mono hx82.1
  have hA80 := hx82.2 _ _ hA80 (jnot_of rfl)
  refine J_aload_n dX7_init_85 rfl ?_
  refine J_bipush (v := 84) dX7_init_86 (by decide) ?_
  refine Jc_newax (atype := .int) (t := 23) (B := 84) (x := .inl (fun _ => 0)) jw_ac_int rfl (fun _ h => by cases h) (by decide) dX7_init_88 (by decide) (by decide) (by decide) (fun _ _ => rfl) (fun hN => jok_zI rfl (by decide) (by decide) (fun m h => by cases h <;> rfl) hN) (by decide) (by decide) hW (fun b88 V88 hn88 hb88 hk88 hW hx88 hA88 => ?_)
  have hz88 := he.1.none hn88
  have he := he.trans (hx88.sub (jsub_of rfl))
  have hb7 := hb7.mono hx88.1
  have hb15 := hb15.mono hx88.1
  have hb24 := hb24.mono hx88.1
  have hb32 := hb32.mono hx88.1
  have hb40 := hb40.mono hx88.1
  have hb48 := hb48.mono hx88.1
  have hb56 := hb56.mono hx88.1
  have hb64 := hb64.mono hx88.1
  have hb72 := hb72.mono hx88.1
  have hb80 := hb80.mono hx88.1
  have hq := hk88 _ _ hq
  have hA80 := hk88 _ _ hA80
  have hA88 : V88 b88 = some (.inl (23, 84, .inl (fun _ => 0))) := hA88
  refine Jc_putF jf_X7_41 jt_X7_12 rfl (fun _ h => by cases h; rfl) dX7_init_90 hq rfl rfl (Nat.le_of_ble_eq_true rfl) (fun _ h => by cases h) hW (fun V90 hq hW hx90 hB90 => ?_)
  have hq : V90 q = some (.inr (5, [.int 0, .ref b7, .ref b15, .ref b24, .ref b32, .int 0, .ref b40, .ref b48, .ref b56, .ref b64, .ref b72, .ref b80, .ref b88, .null, .null, .null, .null, .null, .null, .null, .null, .null, .int 0, .int 0, .int 0, .null, .int 0, .int 0, .int 0, .null, .null, .null, .null, .null])) := hq
  have he := he.trans (hx90.sub (jsub_of rfl))
  have hb7 := hb7.mono hx90.1
  have hb15 := hb15.mono hx90.1
  have hb24 := hb24.mono hx90.1
  have hb32 := hb32.mono hx90.1
  have hb40 := hb40.mono hx90.1
  have hb48 := hb48.mono hx90.1
  have hb56 := hb56.mono hx90.1
  have hb64 := hb64.mono hx90.1
  have hb72 := hb72.mono hx90.1
  have hb80 := hb80.mono hx90.1
  have hb88 := hb88.mono hx90.1
  have hA80 := hx90.2 _ _ hA80 (jnot_of rfl)
  have hA88 := hx90.2 _ _ hA88 (jnot_of rfl)
  refine J_aload_n dX7_init_93 rfl ?_
  refine J_bipush (v := 84) dX7_init_94 (by decide) ?_
  refine Jc_newax (atype := .long) (t := 46) (B := 84) (x := .inr (.inl (fun _ => 0))) jw_ac_long rfl (fun _ h => by cases h) (by decide) dX7_init_96 (by decide) (by decide) (by decide) (fun _ _ => rfl) (fun hN => jok_zL rfl (fun m h => by cases h <;> rfl) hN) (by decide) (by decide) hW (fun b96 V96 hn96 hb96 hk96 hW hx96 hA96 => ?_)
  have hz96 := he.1.none hn96
  have he := he.trans (hx96.sub (jsub_of rfl))
  have hb7 := hb7.mono hx96.1
  have hb15 := hb15.mono hx96.1
  have hb24 := hb24.mono hx96.1
  have hb32 := hb32.mono hx96.1
  have hb40 := hb40.mono hx96.1
  have hb48 := hb48.mono hx96.1
  have hb56 := hb56.mono hx96.1
  have hb64 := hb64.mono hx96.1
  have hb72 := hb72.mono hx96.1
  have hb80 := hb80.mono hx96.1
  have hb88 := hb88.mono hx96.1
  have hq := hk96 _ _ hq
  have hA80 := hk96 _ _ hA80
  have hA88 := hk96 _ _ hA88
  have hA96 : V96 b96 = some (.inl (46, 84, .inr (.inl (fun _ => 0)))) := hA96
  refine Jc_putF jf_X7_44 jt_X7_13 rfl (fun _ h => by cases h; rfl) dX7_init_98 hq rfl rfl (Nat.le_of_ble_eq_true rfl) (fun _ h => by cases h) hW (fun V98 hq hW hx98 hB98 => ?_)
  have hq : V98 q = some (.inr (5, [.int 0, .ref b7, .ref b15, .ref b24, .ref b32, .int 0, .ref b40, .ref b48, .ref b56, .ref b64, .ref b72, .ref b80, .ref b88, .ref b96, .null, .null, .null, .null, .null, .null, .null, .null, .int 0, .int 0, .int 0, .null, .int 0, .int 0, .int 0, .null, .null, .null, .null, .null])) := hq
  have he := he.trans (hx98.sub (jsub_of rfl))
  have hb7 := hb7.mono hx98.1
  have hb15 := hb15.mono hx98.1
  have hb24 := hb24.mono hx98.1
  have hb32 := hb32.mono hx98.1
  have hb40 := hb40.mono hx98.1
  have hb48 := hb48.mono hx98.1
  have hb56 := hb56.mono hx98.1
  have hb64 := hb64.mono hx98.1
  have hb72 := hb72.mono hx98.1
  have hb80 := hb80.mono hx98.1
  have hb88 := hb88.mono hx98.1
  have hb96 := hb96.mono hx98.1
  have hA80 := hx98.2 _ _ hA80 (jnot_of rfl)
  have hA88 := hx98.2 _ _ hA88 (jnot_of rfl)
  have hA96 := hx98.2 _ _ hA96 (jnot_of rfl)
  refine J_aload_n dX7_init_101 rfl ?_
  refine J_bipush (v := 84) dX7_init_102 (by decide) ?_
  refine Jc_newax (atype := .int) (t := 24) (B := 84) (x := .inl (fun _ => 0)) jw_ac_int rfl (fun _ h => by cases h) (by decide) dX7_init_104 (by decide) (by decide) (by decide) (fun _ _ => rfl) (fun hN => jok_zI rfl (by decide) (by decide) (fun m h => by cases h <;> rfl) hN) (by decide) (by decide) hW (fun b104 V104 hn104 hb104 hk104 hW hx104 hA104 => ?_)
  have hz104 := he.1.none hn104
  have he := he.trans (hx104.sub (jsub_of rfl))
  have hb7 := hb7.mono hx104.1
  have hb15 := hb15.mono hx104.1
  have hb24 := hb24.mono hx104.1
  have hb32 := hb32.mono hx104.1
  have hb40 := hb40.mono hx104.1
  have hb48 := hb48.mono hx104.1
  have hb56 := hb56.mono hx104.1
  have hb64 := hb64.mono hx104.1
  have hb72 := hb72.mono hx104.1
  have hb80 := hb80.mono hx104.1
  have hb88 := hb88.mono hx104.1
  have hb96 := hb96.mono hx104.1
  have hq := hk104 _ _ hq
  have hA80 := hk104 _ _ hA80
  have hA88 := hk104 _ _ hA88
  have hA96 := hk104 _ _ hA96
  have hA104 : V104 b104 = some (.inl (24, 84, .inl (fun _ => 0))) := hA104
  refine Jc_putF jf_X7_48 jt_X7_14 rfl (fun _ h => by cases h; rfl) dX7_init_106 hq rfl rfl (Nat.le_of_ble_eq_true rfl) (fun _ h => by cases h) hW (fun V106 hq hW hx106 hB106 => ?_)
  have hq : V106 q = some (.inr (5, [.int 0, .ref b7, .ref b15, .ref b24, .ref b32, .int 0, .ref b40, .ref b48, .ref b56, .ref b64, .ref b72, .ref b80, .ref b88, .ref b96, .ref b104, .null, .null, .null, .null, .null, .null, .null, .int 0, .int 0, .int 0, .null, .int 0, .int 0, .int 0, .null, .null, .null, .null, .null])) := hq
  have he := he.trans (hx106.sub (jsub_of rfl))
  have hb7 := hb7.mono hx106.1
  have hb15 := hb15.mono hx106.1
  have hb24 := hb24.mono hx106.1
  have hb32 := hb32.mono hx106.1
  have hb40 := hb40.mono hx106.1
  have hb48 := hb48.mono hx106.1
  have hb56 := hb56.mono hx106.1
  have hb64 := hb64.mono hx106.1
  have hb72 := hb72.mono hx106.1
  have hb80 := hb80.mono hx106.1
  have hb88 := hb88.mono hx106.1
  have hb96 := hb96.mono hx106.1
  have hb104 := hb104.mono hx106.1
  have hA80 := hx106.2 _ _ hA80 (jnot_of rfl)
  have hA88 := hx106.2 _ _ hA88 (jnot_of rfl)
  have hA96 := hx106.2 _ _ hA96 (jnot_of rfl)
  have hA104 := hx106.2 _ _ hA104 (jnot_of rfl)
  refine J_aload_n dX7_init_109 rfl ?_
  refine J_bipush (v := 84) dX7_init_110 (by decide) ?_
  refine Jc_newax (atype := .int) (t := 25) (B := 84) (x := .inl (fun _ => 0)) jw_ac_int rfl (fun _ h => by cases h) (by decide) dX7_init_112 (by decide) (by decide) (by decide) (fun _ _ => rfl) (fun hN => jok_zI rfl (by decide) (by decide) (fun m h => by cases h <;> rfl) hN) (by decide) (by decide) hW (fun b112 V112 hn112 hb112 hk112 hW hx112 hA112 => ?_)
  have hz112 := he.1.none hn112
  have he := he.trans (hx112.sub (jsub_of rfl))
  have hb7 := hb7.mono hx112.1
  have hb15 := hb15.mono hx112.1
  have hb24 := hb24.mono hx112.1
  have hb32 := hb32.mono hx112.1
  have hb40 := hb40.mono hx112.1
  have hb48 := hb48.mono hx112.1
  have hb56 := hb56.mono hx112.1
  have hb64 := hb64.mono hx112.1
  have hb72 := hb72.mono hx112.1
  have hb80 := hb80.mono hx112.1
  have hb88 := hb88.mono hx112.1
  have hb96 := hb96.mono hx112.1
  have hb104 := hb104.mono hx112.1
  have hq := hk112 _ _ hq
  have hA80 := hk112 _ _ hA80
  have hA88 := hk112 _ _ hA88
  have hA96 := hk112 _ _ hA96
  have hA104 := hk112 _ _ hA104
  have hA112 : V112 b112 = some (.inl (25, 84, .inl (fun _ => 0))) := hA112
  refine Jc_putF jf_X7_51 jt_X7_15 rfl (fun _ h => by cases h; rfl) dX7_init_114 hq rfl rfl (Nat.le_of_ble_eq_true rfl) (fun _ h => by cases h) hW (fun V114 hq hW hx114 hB114 => ?_)
  have hq : V114 q = some (.inr (5, [.int 0, .ref b7, .ref b15, .ref b24, .ref b32, .int 0, .ref b40, .ref b48, .ref b56, .ref b64, .ref b72, .ref b80, .ref b88, .ref b96, .ref b104, .ref b112, .null, .null, .null, .null, .null, .null, .int 0, .int 0, .int 0, .null, .int 0, .int 0, .int 0, .null, .null, .null, .null, .null])) := hq
  have he := he.trans (hx114.sub (jsub_of rfl))
  have hb7 := hb7.mono hx114.1
  have hb15 := hb15.mono hx114.1
  have hb24 := hb24.mono hx114.1
  have hb32 := hb32.mono hx114.1
  have hb40 := hb40.mono hx114.1
  have hb48 := hb48.mono hx114.1
  have hb56 := hb56.mono hx114.1
  have hb64 := hb64.mono hx114.1
  have hb72 := hb72.mono hx114.1
  have hb80 := hb80.mono hx114.1
  have hb88 := hb88.mono hx114.1
  have hb96 := hb96.mono hx114.1
  have hb104 := hb104.mono hx114.1
  have hb112 := hb112.mono hx114.1
  have hA80 := hx114.2 _ _ hA80 (jnot_of rfl)
  have hA88 := hx114.2 _ _ hA88 (jnot_of rfl)
  have hA96 := hx114.2 _ _ hA96 (jnot_of rfl)
  have hA104 := hx114.2 _ _ hA104 (jnot_of rfl)
  have hA112 := hx114.2 _ _ hA112 (jnot_of rfl)
  refine J_aload_n dX7_init_117 rfl ?_
  refine J_ldc jw_k_X7_54 dX7_init_118 ?_
  refine Jc_newax (atype := .boolean) (t := 41) (B := 79507) (x := .inl (fun _ => 0)) jw_ac_boolean rfl (fun _ h => by cases h) (by decide) dX7_init_120 (by decide) (by decide) (by decide) (fun _ _ => rfl) (fun hN => jok_zI rfl (by decide) (by decide) (fun m h => by cases h <;> rfl) hN) (by decide) (by decide) hW (fun b120 V120 hn120 hb120 hk120 hW hx120 hA120 => ?_)
  have hz120 := he.1.none hn120
  have he := he.trans (hx120.sub (jsub_of rfl))
  have hb7 := hb7.mono hx120.1
  have hb15 := hb15.mono hx120.1
  have hb24 := hb24.mono hx120.1
  have hb32 := hb32.mono hx120.1
  have hb40 := hb40.mono hx120.1
  have hb48 := hb48.mono hx120.1
  have hb56 := hb56.mono hx120.1
  have hb64 := hb64.mono hx120.1
  have hb72 := hb72.mono hx120.1
  have hb80 := hb80.mono hx120.1
  have hb88 := hb88.mono hx120.1
  have hb96 := hb96.mono hx120.1
  have hb104 := hb104.mono hx120.1
  have hb112 := hb112.mono hx120.1
  have hq := hk120 _ _ hq
  have hA80 := hk120 _ _ hA80
  have hA88 := hk120 _ _ hA88
  have hA96 := hk120 _ _ hA96
  have hA104 := hk120 _ _ hA104
  have hA112 := hk120 _ _ hA112
  have hA120 : V120 b120 = some (.inl (41, 79507, .inl (fun _ => 0))) := hA120
  refine Jc_putF jf_X7_55 jt_X7_16 rfl (fun _ h => by cases h; rfl) dX7_init_122 hq rfl rfl (Nat.le_of_ble_eq_true rfl) (fun _ h => by cases h) hW (fun V122 hq hW hx122 hB122 => ?_)
  have hq : V122 q = some (.inr (5, [.int 0, .ref b7, .ref b15, .ref b24, .ref b32, .int 0, .ref b40, .ref b48, .ref b56, .ref b64, .ref b72, .ref b80, .ref b88, .ref b96, .ref b104, .ref b112, .ref b120, .null, .null, .null, .null, .null, .int 0, .int 0, .int 0, .null, .int 0, .int 0, .int 0, .null, .null, .null, .null, .null])) := hq
  have he := he.trans (hx122.sub (jsub_of rfl))
  have hb7 := hb7.mono hx122.1
  have hb15 := hb15.mono hx122.1
  have hb24 := hb24.mono hx122.1
  have hb32 := hb32.mono hx122.1
  have hb40 := hb40.mono hx122.1
  have hb48 := hb48.mono hx122.1
  have hb56 := hb56.mono hx122.1
  have hb64 := hb64.mono hx122.1
  have hb72 := hb72.mono hx122.1
  have hb80 := hb80.mono hx122.1
  have hb88 := hb88.mono hx122.1
  have hb96 := hb96.mono hx122.1
  have hb104 := hb104.mono hx122.1
  have hb112 := hb112.mono hx122.1
  have hb120 := hb120.mono hx122.1
  have hA80 := hx122.2 _ _ hA80 (jnot_of rfl)
  have hA88 := hx122.2 _ _ hA88 (jnot_of rfl)
  have hA96 := hx122.2 _ _ hA96 (jnot_of rfl)
  have hA104 := hx122.2 _ _ hA104 (jnot_of rfl)
  have hA112 := hx122.2 _ _ hA112 (jnot_of rfl)
  have hA120 := hx122.2 _ _ hA120 (jnot_of rfl)
  refine J_aload_n dX7_init_125 rfl ?_
  refine J_bipush (v := 22) dX7_init_126 (by decide) ?_
  refine Jc_newa (atype := .int) (t := 26) (B := 22) (x := .inl (fun _ => 0)) jw_ac_int rfl (fun _ h => by cases h) (by decide) dX7_init_128 (by decide) (by decide) (by decide) (fun _ _ => rfl) (fun hN => jok_zI rfl (by decide) (by decide) (fun m h => by cases h <;> rfl) hN) (by decide) (by decide) hW (fun b128 V128 hn128 hb128 hk128 hW hx128 => ?_)
  have hz128 := he.1.none hn128
  have he := he.trans (hx128.sub (jsub_of rfl))
  have hb7 := hb7.mono hx128.1
  have hb15 := hb15.mono hx128.1
  have hb24 := hb24.mono hx128.1
  have hb32 := hb32.mono hx128.1
  have hb40 := hb40.mono hx128.1
  have hb48 := hb48.mono hx128.1
  have hb56 := hb56.mono hx128.1
  have hb64 := hb64.mono hx128.1
  have hb72 := hb72.mono hx128.1
  have hb80 := hb80.mono hx128.1
  have hb88 := hb88.mono hx128.1
  have hb96 := hb96.mono hx128.1
  have hb104 := hb104.mono hx128.1
  have hb112 := hb112.mono hx128.1
  have hb120 := hb120.mono hx128.1
  have hq := hk128 _ _ hq
  have hA80 := hk128 _ _ hA80
  have hA88 := hk128 _ _ hA88
  have hA96 := hk128 _ _ hA96
  have hA104 := hk128 _ _ hA104
  have hA112 := hk128 _ _ hA112
  have hA120 := hk128 _ _ hA120
  refine Jc_putF jf_X7_58 jt_X7_17 rfl (fun _ h => by cases h; rfl) dX7_init_130 hq rfl rfl (Nat.le_of_ble_eq_true rfl) (fun _ h => by cases h) hW (fun V130 hq hW hx130 hB130 => ?_)
  have hq : V130 q = some (.inr (5, [.int 0, .ref b7, .ref b15, .ref b24, .ref b32, .int 0, .ref b40, .ref b48, .ref b56, .ref b64, .ref b72, .ref b80, .ref b88, .ref b96, .ref b104, .ref b112, .ref b120, .ref b128, .null, .null, .null, .null, .int 0, .int 0, .int 0, .null, .int 0, .int 0, .int 0, .null, .null, .null, .null, .null])) := hq
  have he := he.trans (hx130.sub (jsub_of rfl))
  have hb7 := hb7.mono hx130.1
  have hb15 := hb15.mono hx130.1
  have hb24 := hb24.mono hx130.1
  have hb32 := hb32.mono hx130.1
  have hb40 := hb40.mono hx130.1
  have hb48 := hb48.mono hx130.1
  have hb56 := hb56.mono hx130.1
  have hb64 := hb64.mono hx130.1
  have hb72 := hb72.mono hx130.1
  have hb80 := hb80.mono hx130.1
  have hb88 := hb88.mono hx130.1
  have hb96 := hb96.mono hx130.1
  have hb104 := hb104.mono hx130.1
  have hb112 := hb112.mono hx130.1
  have hb120 := hb120.mono hx130.1
  have hb128 := hb128.mono hx130.1
  have hA80 := hx130.2 _ _ hA80 (jnot_of rfl)
  have hA88 := hx130.2 _ _ hA88 (jnot_of rfl)
  have hA96 := hx130.2 _ _ hA96 (jnot_of rfl)
  have hA104 := hx130.2 _ _ hA104 (jnot_of rfl)
  have hA112 := hx130.2 _ _ hA112 (jnot_of rfl)
  have hA120 := hx130.2 _ _ hA120 (jnot_of rfl)
  refine J_aload_n dX7_init_133 rfl ?_
  refine J_bipush (v := 32) dX7_init_134 (by decide) ?_
  refine Jc_newax (atype := .int) (t := 27) (B := 32) (x := .inl (fun _ => 0)) jw_ac_int rfl (fun _ h => by cases h) (by decide) dX7_init_136 (by decide) (by decide) (by decide) (fun _ _ => rfl) (fun hN => jok_zI rfl (by decide) (by decide) (fun m h => by cases h <;> rfl) hN) (by decide) (by decide) hW (fun b136 V136 hn136 hb136 hk136 hW hx136 hA136 => ?_)
  have hz136 := he.1.none hn136
  have he := he.trans (hx136.sub (jsub_of rfl))
  have hb7 := hb7.mono hx136.1
  have hb15 := hb15.mono hx136.1
  have hb24 := hb24.mono hx136.1
  have hb32 := hb32.mono hx136.1
  have hb40 := hb40.mono hx136.1
  have hb48 := hb48.mono hx136.1
  have hb56 := hb56.mono hx136.1
  have hb64 := hb64.mono hx136.1
  have hb72 := hb72.mono hx136.1
  have hb80 := hb80.mono hx136.1
  have hb88 := hb88.mono hx136.1
  have hb96 := hb96.mono hx136.1
  have hb104 := hb104.mono hx136.1
  have hb112 := hb112.mono hx136.1
  have hb120 := hb120.mono hx136.1
  have hb128 := hb128.mono hx136.1
  have hq := hk136 _ _ hq
  have hA80 := hk136 _ _ hA80
  have hA88 := hk136 _ _ hA88
  have hA96 := hk136 _ _ hA96
  have hA104 := hk136 _ _ hA104
  have hA112 := hk136 _ _ hA112
  have hA120 := hk136 _ _ hA120
  have hA136 : V136 b136 = some (.inl (27, 32, .inl (fun _ => 0))) := hA136
  refine Jc_putF jf_X7_61 jt_X7_18 rfl (fun _ h => by cases h; rfl) dX7_init_138 hq rfl rfl (Nat.le_of_ble_eq_true rfl) (fun _ h => by cases h) hW (fun V138 hq hW hx138 hB138 => ?_)
  have hq : V138 q = some (.inr (5, [.int 0, .ref b7, .ref b15, .ref b24, .ref b32, .int 0, .ref b40, .ref b48, .ref b56, .ref b64, .ref b72, .ref b80, .ref b88, .ref b96, .ref b104, .ref b112, .ref b120, .ref b128, .ref b136, .null, .null, .null, .int 0, .int 0, .int 0, .null, .int 0, .int 0, .int 0, .null, .null, .null, .null, .null])) := hq
  have he := he.trans (hx138.sub (jsub_of rfl))
  have hb7 := hb7.mono hx138.1
  have hb15 := hb15.mono hx138.1
  have hb24 := hb24.mono hx138.1
  have hb32 := hb32.mono hx138.1
  have hb40 := hb40.mono hx138.1
  have hb48 := hb48.mono hx138.1
  have hb56 := hb56.mono hx138.1
  have hb64 := hb64.mono hx138.1
  have hb72 := hb72.mono hx138.1
  have hb80 := hb80.mono hx138.1
  have hb88 := hb88.mono hx138.1
  have hb96 := hb96.mono hx138.1
  have hb104 := hb104.mono hx138.1
  have hb112 := hb112.mono hx138.1
  have hb120 := hb120.mono hx138.1
  have hb128 := hb128.mono hx138.1
  have hb136 := hb136.mono hx138.1
  have hA80 := hx138.2 _ _ hA80 (jnot_of rfl)
  have hA88 := hx138.2 _ _ hA88 (jnot_of rfl)
  have hA96 := hx138.2 _ _ hA96 (jnot_of rfl)
  have hA104 := hx138.2 _ _ hA104 (jnot_of rfl)
  have hA112 := hx138.2 _ _ hA112 (jnot_of rfl)
  have hA120 := hx138.2 _ _ hA120 (jnot_of rfl)
  have hA136 := hx138.2 _ _ hA136 (jnot_of rfl)
  refine J_aload_n dX7_init_141 rfl ?_
  refine J_bipush (v := 28) dX7_init_142 (by decide) ?_
  refine Jc_newax (atype := .int) (t := 28) (B := 28) (x := .inl (fun _ => 0)) jw_ac_int rfl (fun _ h => by cases h) (by decide) dX7_init_144 (by decide) (by decide) (by decide) (fun _ _ => rfl) (fun hN => jok_zI rfl (by decide) (by decide) (fun m h => by cases h <;> rfl) hN) (by decide) (by decide) hW (fun b144 V144 hn144 hb144 hk144 hW hx144 hA144 => ?_)
  have hz144 := he.1.none hn144
  have he := he.trans (hx144.sub (jsub_of rfl))
  have hb7 := hb7.mono hx144.1
  have hb15 := hb15.mono hx144.1
  have hb24 := hb24.mono hx144.1
  have hb32 := hb32.mono hx144.1
  have hb40 := hb40.mono hx144.1
  have hb48 := hb48.mono hx144.1
  have hb56 := hb56.mono hx144.1
  have hb64 := hb64.mono hx144.1
  have hb72 := hb72.mono hx144.1
  have hb80 := hb80.mono hx144.1
  have hb88 := hb88.mono hx144.1
  have hb96 := hb96.mono hx144.1
  have hb104 := hb104.mono hx144.1
  have hb112 := hb112.mono hx144.1
  have hb120 := hb120.mono hx144.1
  have hb128 := hb128.mono hx144.1
  have hb136 := hb136.mono hx144.1
  have hq := hk144 _ _ hq
  have hA80 := hk144 _ _ hA80
  have hA88 := hk144 _ _ hA88
  have hA96 := hk144 _ _ hA96
  have hA104 := hk144 _ _ hA104
  have hA112 := hk144 _ _ hA112
  have hA120 := hk144 _ _ hA120
  have hA136 := hk144 _ _ hA136
  have hA144 : V144 b144 = some (.inl (28, 28, .inl (fun _ => 0))) := hA144
  refine Jc_putF jf_X7_64 jt_X7_19 rfl (fun _ h => by cases h; rfl) dX7_init_146 hq rfl rfl (Nat.le_of_ble_eq_true rfl) (fun _ h => by cases h) hW (fun V146 hq hW hx146 hB146 => ?_)
  have hq : V146 q = some (.inr (5, [.int 0, .ref b7, .ref b15, .ref b24, .ref b32, .int 0, .ref b40, .ref b48, .ref b56, .ref b64, .ref b72, .ref b80, .ref b88, .ref b96, .ref b104, .ref b112, .ref b120, .ref b128, .ref b136, .ref b144, .null, .null, .int 0, .int 0, .int 0, .null, .int 0, .int 0, .int 0, .null, .null, .null, .null, .null])) := hq
  have he := he.trans (hx146.sub (jsub_of rfl))
  have hb7 := hb7.mono hx146.1
  have hb15 := hb15.mono hx146.1
  have hb24 := hb24.mono hx146.1
  have hb32 := hb32.mono hx146.1
  have hb40 := hb40.mono hx146.1
  have hb48 := hb48.mono hx146.1
  have hb56 := hb56.mono hx146.1
  have hb64 := hb64.mono hx146.1
  have hb72 := hb72.mono hx146.1
  have hb80 := hb80.mono hx146.1
  have hb88 := hb88.mono hx146.1
  have hb96 := hb96.mono hx146.1
  have hb104 := hb104.mono hx146.1
  have hb112 := hb112.mono hx146.1
  have hb120 := hb120.mono hx146.1
  have hb128 := hb128.mono hx146.1
  have hb136 := hb136.mono hx146.1
  have hb144 := hb144.mono hx146.1
  have hA80 := hx146.2 _ _ hA80 (jnot_of rfl)
  have hA88 := hx146.2 _ _ hA88 (jnot_of rfl)
  have hA96 := hx146.2 _ _ hA96 (jnot_of rfl)
  have hA104 := hx146.2 _ _ hA104 (jnot_of rfl)
  have hA112 := hx146.2 _ _ hA112 (jnot_of rfl)
  have hA120 := hx146.2 _ _ hA120 (jnot_of rfl)
  have hA136 := hx146.2 _ _ hA136 (jnot_of rfl)
  have hA144 := hx146.2 _ _ hA144 (jnot_of rfl)
  refine J_aload_n dX7_init_149 rfl ?_
  refine J_sipush (v := 10000) dX7_init_150 (by decide) ?_
  refine Jc_newa (atype := .boolean) (t := 42) (B := 10000) (x := .inl (fun _ => 0)) jw_ac_boolean rfl (fun _ h => by cases h) (by decide) dX7_init_153 (by decide) (by decide) (by decide) (fun _ _ => rfl) (fun hN => jok_zI rfl (by decide) (by decide) (fun m h => by cases h <;> rfl) hN) (by decide) (by decide) hW (fun b153 V153 hn153 hb153 hk153 hW hx153 => ?_)
  have hz153 := he.1.none hn153
  have he := he.trans (hx153.sub (jsub_of rfl))
  have hb7 := hb7.mono hx153.1
  have hb15 := hb15.mono hx153.1
  have hb24 := hb24.mono hx153.1
  have hb32 := hb32.mono hx153.1
  have hb40 := hb40.mono hx153.1
  have hb48 := hb48.mono hx153.1
  have hb56 := hb56.mono hx153.1
  have hb64 := hb64.mono hx153.1
  have hb72 := hb72.mono hx153.1
  have hb80 := hb80.mono hx153.1
  have hb88 := hb88.mono hx153.1
  have hb96 := hb96.mono hx153.1
  have hb104 := hb104.mono hx153.1
  have hb112 := hb112.mono hx153.1
  have hb120 := hb120.mono hx153.1
  have hb128 := hb128.mono hx153.1
  have hb136 := hb136.mono hx153.1
  have hb144 := hb144.mono hx153.1
  have hq := hk153 _ _ hq
  have hA80 := hk153 _ _ hA80
  have hA88 := hk153 _ _ hA88
  have hA96 := hk153 _ _ hA96
  have hA104 := hk153 _ _ hA104
  have hA112 := hk153 _ _ hA112
  have hA120 := hk153 _ _ hA120
  have hA136 := hk153 _ _ hA136
  have hA144 := hk153 _ _ hA144
  refine Jc_putF jf_X7_67 jt_X7_20 rfl (fun _ h => by cases h; rfl) dX7_init_155 hq rfl rfl (Nat.le_of_ble_eq_true rfl) (fun _ h => by cases h) hW (fun V155 hq hW hx155 hB155 => ?_)
  have hq : V155 q = some (.inr (5, [.int 0, .ref b7, .ref b15, .ref b24, .ref b32, .int 0, .ref b40, .ref b48, .ref b56, .ref b64, .ref b72, .ref b80, .ref b88, .ref b96, .ref b104, .ref b112, .ref b120, .ref b128, .ref b136, .ref b144, .ref b153, .null, .int 0, .int 0, .int 0, .null, .int 0, .int 0, .int 0, .null, .null, .null, .null, .null])) := hq
  have he := he.trans (hx155.sub (jsub_of rfl))
  have hb7 := hb7.mono hx155.1
  have hb15 := hb15.mono hx155.1
  have hb24 := hb24.mono hx155.1
  have hb32 := hb32.mono hx155.1
  have hb40 := hb40.mono hx155.1
  have hb48 := hb48.mono hx155.1
  have hb56 := hb56.mono hx155.1
  have hb64 := hb64.mono hx155.1
  have hb72 := hb72.mono hx155.1
  have hb80 := hb80.mono hx155.1
  have hb88 := hb88.mono hx155.1
  have hb96 := hb96.mono hx155.1
  have hb104 := hb104.mono hx155.1
  have hb112 := hb112.mono hx155.1
  have hb120 := hb120.mono hx155.1
  have hb128 := hb128.mono hx155.1
  have hb136 := hb136.mono hx155.1
  have hb144 := hb144.mono hx155.1
  have hb153 := hb153.mono hx155.1
  have hA80 := hx155.2 _ _ hA80 (jnot_of rfl)
  have hA88 := hx155.2 _ _ hA88 (jnot_of rfl)
  have hA96 := hx155.2 _ _ hA96 (jnot_of rfl)
  have hA104 := hx155.2 _ _ hA104 (jnot_of rfl)
  have hA112 := hx155.2 _ _ hA112 (jnot_of rfl)
  have hA120 := hx155.2 _ _ hA120 (jnot_of rfl)
  have hA136 := hx155.2 _ _ hA136 (jnot_of rfl)
  have hA144 := hx155.2 _ _ hA144 (jnot_of rfl)
  refine J_aload_n dX7_init_158 rfl ?_
  refine J_sipush (v := 10000) dX7_init_159 (by decide) ?_
  refine Jc_newa (atype := .int) (t := 29) (B := 10000) (x := .inl (fun _ => 0)) jw_ac_int rfl (fun _ h => by cases h) (by decide) dX7_init_162 (by decide) (by decide) (by decide) (fun _ _ => rfl) (fun hN => jok_zI rfl (by decide) (by decide) (fun m h => by cases h <;> rfl) hN) (by decide) (by decide) hW (fun b162 V162 hn162 hb162 hk162 hW hx162 => ?_)
  have hz162 := he.1.none hn162
  have he := he.trans (hx162.sub (jsub_of rfl))
  have hb7 := hb7.mono hx162.1
  have hb15 := hb15.mono hx162.1
  have hb24 := hb24.mono hx162.1
  have hb32 := hb32.mono hx162.1
  have hb40 := hb40.mono hx162.1
  have hb48 := hb48.mono hx162.1
  have hb56 := hb56.mono hx162.1
  have hb64 := hb64.mono hx162.1
  have hb72 := hb72.mono hx162.1
  have hb80 := hb80.mono hx162.1
  have hb88 := hb88.mono hx162.1
  have hb96 := hb96.mono hx162.1
  have hb104 := hb104.mono hx162.1
  have hb112 := hb112.mono hx162.1
  have hb120 := hb120.mono hx162.1
  have hb128 := hb128.mono hx162.1
  have hb136 := hb136.mono hx162.1
  have hb144 := hb144.mono hx162.1
  have hb153 := hb153.mono hx162.1
  have hq := hk162 _ _ hq
  have hA80 := hk162 _ _ hA80
  have hA88 := hk162 _ _ hA88
  have hA96 := hk162 _ _ hA96
  have hA104 := hk162 _ _ hA104
  have hA112 := hk162 _ _ hA112
  have hA120 := hk162 _ _ hA120
  have hA136 := hk162 _ _ hA136
  have hA144 := hk162 _ _ hA144
  refine Jc_putF jf_X7_70 jt_X7_21 rfl (fun _ h => by cases h; rfl) dX7_init_164 hq rfl rfl (Nat.le_of_ble_eq_true rfl) (fun _ h => by cases h) hW (fun V164 hq hW hx164 hB164 => ?_)
  have hq : V164 q = some (.inr (5, [.int 0, .ref b7, .ref b15, .ref b24, .ref b32, .int 0, .ref b40, .ref b48, .ref b56, .ref b64, .ref b72, .ref b80, .ref b88, .ref b96, .ref b104, .ref b112, .ref b120, .ref b128, .ref b136, .ref b144, .ref b153, .ref b162, .int 0, .int 0, .int 0, .null, .int 0, .int 0, .int 0, .null, .null, .null, .null, .null])) := hq
  have he := he.trans (hx164.sub (jsub_of rfl))
  have hb7 := hb7.mono hx164.1
  have hb15 := hb15.mono hx164.1
  have hb24 := hb24.mono hx164.1
  have hb32 := hb32.mono hx164.1
  have hb40 := hb40.mono hx164.1
  have hb48 := hb48.mono hx164.1
  have hb56 := hb56.mono hx164.1
  have hb64 := hb64.mono hx164.1
  have hb72 := hb72.mono hx164.1
  have hb80 := hb80.mono hx164.1
  have hb88 := hb88.mono hx164.1
  have hb96 := hb96.mono hx164.1
  have hb104 := hb104.mono hx164.1
  have hb112 := hb112.mono hx164.1
  have hb120 := hb120.mono hx164.1
  have hb128 := hb128.mono hx164.1
  have hb136 := hb136.mono hx164.1
  have hb144 := hb144.mono hx164.1
  have hb153 := hb153.mono hx164.1
  have hb162 := hb162.mono hx164.1
  have hA80 := hx164.2 _ _ hA80 (jnot_of rfl)
  have hA88 := hx164.2 _ _ hA88 (jnot_of rfl)
  have hA96 := hx164.2 _ _ hA96 (jnot_of rfl)
  have hA104 := hx164.2 _ _ hA104 (jnot_of rfl)
  have hA112 := hx164.2 _ _ hA112 (jnot_of rfl)
  have hA120 := hx164.2 _ _ hA120 (jnot_of rfl)
  have hA136 := hx164.2 _ _ hA136 (jnot_of rfl)
  have hA144 := hx164.2 _ _ hA144 (jnot_of rfl)
  refine J_aload_n dX7_init_167 rfl ?_
  refine J_iconst (v := 2) dX7_init_168 (by decide) ?_
  refine Jc_put jf_X7_73 jt_X7_23 dX7_init_169 hq rfl rfl (Nat.le_of_ble_eq_true rfl) (fun _ h => by cases h) hW (fun V169 hq hW hx169 hB169 => ?_)
  have hq : V169 q = some (.inr (5, [.int 0, .ref b7, .ref b15, .ref b24, .ref b32, .int 0, .ref b40, .ref b48, .ref b56, .ref b64, .ref b72, .ref b80, .ref b88, .ref b96, .ref b104, .ref b112, .ref b120, .ref b128, .ref b136, .ref b144, .ref b153, .ref b162, .int 0, .int 2, .int 0, .null, .int 0, .int 0, .int 0, .null, .null, .null, .null, .null])) := hq
  have he := he.trans (hx169.sub (jsub_of rfl))
  have hb7 := hb7.mono hx169.1
  have hb15 := hb15.mono hx169.1
  have hb24 := hb24.mono hx169.1
  have hb32 := hb32.mono hx169.1
  have hb40 := hb40.mono hx169.1
  have hb48 := hb48.mono hx169.1
  have hb56 := hb56.mono hx169.1
  have hb64 := hb64.mono hx169.1
  have hb72 := hb72.mono hx169.1
  have hb80 := hb80.mono hx169.1
  have hb88 := hb88.mono hx169.1
  have hb96 := hb96.mono hx169.1
  have hb104 := hb104.mono hx169.1
  have hb112 := hb112.mono hx169.1
  have hb120 := hb120.mono hx169.1
  have hb128 := hb128.mono hx169.1
  have hb136 := hb136.mono hx169.1
  have hb144 := hb144.mono hx169.1
  have hb153 := hb153.mono hx169.1
  have hb162 := hb162.mono hx169.1
  have hA80 := hx169.2 _ _ hA80 (jnot_of rfl)
  have hA88 := hx169.2 _ _ hA88 (jnot_of rfl)
  have hA96 := hx169.2 _ _ hA96 (jnot_of rfl)
  have hA104 := hx169.2 _ _ hA104 (jnot_of rfl)
  have hA112 := hx169.2 _ _ hA112 (jnot_of rfl)
  have hA120 := hx169.2 _ _ hA120 (jnot_of rfl)
  have hA136 := hx169.2 _ _ hA136 (jnot_of rfl)
  have hA144 := hx169.2 _ _ hA144 (jnot_of rfl)
  refine J_aload_n dX7_init_172 rfl ?_
  refine J_iconst (v := 2) dX7_init_173 (by decide) ?_
  refine Jc_put jf_X7_77 jt_X7_24 dX7_init_174 hq rfl rfl (Nat.le_of_ble_eq_true rfl) (fun _ h => by cases h) hW (fun V174 hq hW hx174 hB174 => ?_)
  have hq : V174 q = some (.inr (5, [.int 0, .ref b7, .ref b15, .ref b24, .ref b32, .int 0, .ref b40, .ref b48, .ref b56, .ref b64, .ref b72, .ref b80, .ref b88, .ref b96, .ref b104, .ref b112, .ref b120, .ref b128, .ref b136, .ref b144, .ref b153, .ref b162, .int 0, .int 2, .int 2, .null, .int 0, .int 0, .int 0, .null, .null, .null, .null, .null])) := hq
  have he := he.trans (hx174.sub (jsub_of rfl))
  have hb7 := hb7.mono hx174.1
  have hb15 := hb15.mono hx174.1
  have hb24 := hb24.mono hx174.1
  have hb32 := hb32.mono hx174.1
  have hb40 := hb40.mono hx174.1
  have hb48 := hb48.mono hx174.1
  have hb56 := hb56.mono hx174.1
  have hb64 := hb64.mono hx174.1
  have hb72 := hb72.mono hx174.1
  have hb80 := hb80.mono hx174.1
  have hb88 := hb88.mono hx174.1
  have hb96 := hb96.mono hx174.1
  have hb104 := hb104.mono hx174.1
  have hb112 := hb112.mono hx174.1
  have hb120 := hb120.mono hx174.1
  have hb128 := hb128.mono hx174.1
  have hb136 := hb136.mono hx174.1
  have hb144 := hb144.mono hx174.1
  have hb153 := hb153.mono hx174.1
  have hb162 := hb162.mono hx174.1
  have hA80 := hx174.2 _ _ hA80 (jnot_of rfl)
  have hA88 := hx174.2 _ _ hA88 (jnot_of rfl)
  have hA96 := hx174.2 _ _ hA96 (jnot_of rfl)
  have hA104 := hx174.2 _ _ hA104 (jnot_of rfl)
  have hA112 := hx174.2 _ _ hA112 (jnot_of rfl)
  have hA120 := hx174.2 _ _ hA120 (jnot_of rfl)
  have hA136 := hx174.2 _ _ hA136 (jnot_of rfl)
  have hA144 := hx174.2 _ _ hA144 (jnot_of rfl)
  refine J_aload_n dX7_init_177 rfl ?_
  refine J_bipush (v := 36) dX7_init_178 (by decide) ?_
  refine Jc_newax (atype := .boolean) (t := 43) (B := 36) (x := .inl (fun _ => 0)) jw_ac_boolean rfl (fun _ h => by cases h) (by decide) dX7_init_180 (by decide) (by decide) (by decide) (fun _ _ => rfl) (fun hN => jok_zI rfl (by decide) (by decide) (fun m h => by cases h <;> rfl) hN) (by decide) (by decide) hW (fun b180 V180 hn180 hb180 hk180 hW hx180 hA180 => ?_)
  have hz180 := he.1.none hn180
  have he := he.trans (hx180.sub (jsub_of rfl))
  have hb7 := hb7.mono hx180.1
  have hb15 := hb15.mono hx180.1
  have hb24 := hb24.mono hx180.1
  have hb32 := hb32.mono hx180.1
  have hb40 := hb40.mono hx180.1
  have hb48 := hb48.mono hx180.1
  have hb56 := hb56.mono hx180.1
  have hb64 := hb64.mono hx180.1
  have hb72 := hb72.mono hx180.1
  have hb80 := hb80.mono hx180.1
  have hb88 := hb88.mono hx180.1
  have hb96 := hb96.mono hx180.1
  have hb104 := hb104.mono hx180.1
  have hb112 := hb112.mono hx180.1
  have hb120 := hb120.mono hx180.1
  have hb128 := hb128.mono hx180.1
  have hb136 := hb136.mono hx180.1
  have hb144 := hb144.mono hx180.1
  have hb153 := hb153.mono hx180.1
  have hb162 := hb162.mono hx180.1
  have hq := hk180 _ _ hq
  have hA80 := hk180 _ _ hA80
  have hA88 := hk180 _ _ hA88
  have hA96 := hk180 _ _ hA96
  have hA104 := hk180 _ _ hA104
  have hA112 := hk180 _ _ hA112
  have hA120 := hk180 _ _ hA120
  have hA136 := hk180 _ _ hA136
  have hA144 := hk180 _ _ hA144
  have hA180 : V180 b180 = some (.inl (43, 36, .inl (fun _ => 0))) := hA180
  refine Jc_putF jf_X7_80 jt_X7_25 rfl (fun _ h => by cases h; rfl) dX7_init_182 hq rfl rfl (Nat.le_of_ble_eq_true rfl) (fun _ h => by cases h) hW (fun V182 hq hW hx182 hB182 => ?_)
  have hq : V182 q = some (.inr (5, [.int 0, .ref b7, .ref b15, .ref b24, .ref b32, .int 0, .ref b40, .ref b48, .ref b56, .ref b64, .ref b72, .ref b80, .ref b88, .ref b96, .ref b104, .ref b112, .ref b120, .ref b128, .ref b136, .ref b144, .ref b153, .ref b162, .int 0, .int 2, .int 2, .ref b180, .int 0, .int 0, .int 0, .null, .null, .null, .null, .null])) := hq
  have he := he.trans (hx182.sub (jsub_of rfl))
  have hb7 := hb7.mono hx182.1
  have hb15 := hb15.mono hx182.1
  have hb24 := hb24.mono hx182.1
  have hb32 := hb32.mono hx182.1
  have hb40 := hb40.mono hx182.1
  have hb48 := hb48.mono hx182.1
  have hb56 := hb56.mono hx182.1
  have hb64 := hb64.mono hx182.1
  have hb72 := hb72.mono hx182.1
  have hb80 := hb80.mono hx182.1
  have hb88 := hb88.mono hx182.1
  have hb96 := hb96.mono hx182.1
  have hb104 := hb104.mono hx182.1
  have hb112 := hb112.mono hx182.1
  have hb120 := hb120.mono hx182.1
  have hb128 := hb128.mono hx182.1
  have hb136 := hb136.mono hx182.1
  have hb144 := hb144.mono hx182.1
  have hb153 := hb153.mono hx182.1
  have hb162 := hb162.mono hx182.1
  have hb180 := hb180.mono hx182.1
  have hA80 := hx182.2 _ _ hA80 (jnot_of rfl)
  have hA88 := hx182.2 _ _ hA88 (jnot_of rfl)
  have hA96 := hx182.2 _ _ hA96 (jnot_of rfl)
  have hA104 := hx182.2 _ _ hA104 (jnot_of rfl)
  have hA112 := hx182.2 _ _ hA112 (jnot_of rfl)
  have hA120 := hx182.2 _ _ hA120 (jnot_of rfl)
  have hA136 := hx182.2 _ _ hA136 (jnot_of rfl)
  have hA144 := hx182.2 _ _ hA144 (jnot_of rfl)
  have hA180 := hx182.2 _ _ hA180 (jnot_of rfl)
  refine J_aload_n dX7_init_185 rfl ?_
  refine J_bipush (v := 36) dX7_init_186 (by decide) ?_
  refine Jc_newa (atype := .int) (t := 30) (B := 36) (x := .inl (fun _ => 0)) jw_ac_int rfl (fun _ h => by cases h) (by decide) dX7_init_188 (by decide) (by decide) (by decide) (fun _ _ => rfl) (fun hN => jok_zI rfl (by decide) (by decide) (fun m h => by cases h <;> rfl) hN) (by decide) (by decide) hW (fun b188 V188 hn188 hb188 hk188 hW hx188 => ?_)
  have hz188 := he.1.none hn188
  have he := he.trans (hx188.sub (jsub_of rfl))
  have hb7 := hb7.mono hx188.1
  have hb15 := hb15.mono hx188.1
  have hb24 := hb24.mono hx188.1
  have hb32 := hb32.mono hx188.1
  have hb40 := hb40.mono hx188.1
  have hb48 := hb48.mono hx188.1
  have hb56 := hb56.mono hx188.1
  have hb64 := hb64.mono hx188.1
  have hb72 := hb72.mono hx188.1
  have hb80 := hb80.mono hx188.1
  have hb88 := hb88.mono hx188.1
  have hb96 := hb96.mono hx188.1
  have hb104 := hb104.mono hx188.1
  have hb112 := hb112.mono hx188.1
  have hb120 := hb120.mono hx188.1
  have hb128 := hb128.mono hx188.1
  have hb136 := hb136.mono hx188.1
  have hb144 := hb144.mono hx188.1
  have hb153 := hb153.mono hx188.1
  have hb162 := hb162.mono hx188.1
  have hb180 := hb180.mono hx188.1
  have hq := hk188 _ _ hq
  have hA80 := hk188 _ _ hA80
  have hA88 := hk188 _ _ hA88
  have hA96 := hk188 _ _ hA96
  have hA104 := hk188 _ _ hA104
  have hA112 := hk188 _ _ hA112
  have hA120 := hk188 _ _ hA120
  have hA136 := hk188 _ _ hA136
  have hA144 := hk188 _ _ hA144
  have hA180 := hk188 _ _ hA180
  refine Jc_putF jf_X7_83 jt_X7_29 rfl (fun _ h => by cases h; rfl) dX7_init_190 hq rfl rfl (Nat.le_of_ble_eq_true rfl) (fun _ h => by cases h) hW (fun V190 hq hW hx190 hB190 => ?_)
  have hq : V190 q = some (.inr (5, [.int 0, .ref b7, .ref b15, .ref b24, .ref b32, .int 0, .ref b40, .ref b48, .ref b56, .ref b64, .ref b72, .ref b80, .ref b88, .ref b96, .ref b104, .ref b112, .ref b120, .ref b128, .ref b136, .ref b144, .ref b153, .ref b162, .int 0, .int 2, .int 2, .ref b180, .int 0, .int 0, .int 0, .ref b188, .null, .null, .null, .null])) := hq
  have he := he.trans (hx190.sub (jsub_of rfl))
  have hb7 := hb7.mono hx190.1
  have hb15 := hb15.mono hx190.1
  have hb24 := hb24.mono hx190.1
  have hb32 := hb32.mono hx190.1
  have hb40 := hb40.mono hx190.1
  have hb48 := hb48.mono hx190.1
  have hb56 := hb56.mono hx190.1
  have hb64 := hb64.mono hx190.1
  have hb72 := hb72.mono hx190.1
  have hb80 := hb80.mono hx190.1
  have hb88 := hb88.mono hx190.1
  have hb96 := hb96.mono hx190.1
  have hb104 := hb104.mono hx190.1
  have hb112 := hb112.mono hx190.1
  have hb120 := hb120.mono hx190.1
  have hb128 := hb128.mono hx190.1
  have hb136 := hb136.mono hx190.1
  have hb144 := hb144.mono hx190.1
  have hb153 := hb153.mono hx190.1
  have hb162 := hb162.mono hx190.1
  have hb180 := hb180.mono hx190.1
  have hb188 := hb188.mono hx190.1
  have hA80 := hx190.2 _ _ hA80 (jnot_of rfl)
  have hA88 := hx190.2 _ _ hA88 (jnot_of rfl)
  have hA96 := hx190.2 _ _ hA96 (jnot_of rfl)
  have hA104 := hx190.2 _ _ hA104 (jnot_of rfl)
  have hA112 := hx190.2 _ _ hA112 (jnot_of rfl)
  have hA120 := hx190.2 _ _ hA120 (jnot_of rfl)
  have hA136 := hx190.2 _ _ hA136 (jnot_of rfl)
  have hA144 := hx190.2 _ _ hA144 (jnot_of rfl)
  have hA180 := hx190.2 _ _ hA180 (jnot_of rfl)
  refine J_aload_n dX7_init_193 rfl ?_
  refine J_bipush (v := 36) dX7_init_194 (by decide) ?_
  refine Jc_newa (atype := .boolean) (t := 44) (B := 36) (x := .inl (fun _ => 0)) jw_ac_boolean rfl (fun _ h => by cases h) (by decide) dX7_init_196 (by decide) (by decide) (by decide) (fun _ _ => rfl) (fun hN => jok_zI rfl (by decide) (by decide) (fun m h => by cases h <;> rfl) hN) (by decide) (by decide) hW (fun b196 V196 hn196 hb196 hk196 hW hx196 => ?_)
  have hz196 := he.1.none hn196
  have he := he.trans (hx196.sub (jsub_of rfl))
  have hb7 := hb7.mono hx196.1
  have hb15 := hb15.mono hx196.1
  have hb24 := hb24.mono hx196.1
  have hb32 := hb32.mono hx196.1
  have hb40 := hb40.mono hx196.1
  have hb48 := hb48.mono hx196.1
  have hb56 := hb56.mono hx196.1
  have hb64 := hb64.mono hx196.1
  have hb72 := hb72.mono hx196.1
  have hb80 := hb80.mono hx196.1
  have hb88 := hb88.mono hx196.1
  have hb96 := hb96.mono hx196.1
  have hb104 := hb104.mono hx196.1
  have hb112 := hb112.mono hx196.1
  have hb120 := hb120.mono hx196.1
  have hb128 := hb128.mono hx196.1
  have hb136 := hb136.mono hx196.1
  have hb144 := hb144.mono hx196.1
  have hb153 := hb153.mono hx196.1
  have hb162 := hb162.mono hx196.1
  have hb180 := hb180.mono hx196.1
  have hb188 := hb188.mono hx196.1
  have hq := hk196 _ _ hq
  have hA80 := hk196 _ _ hA80
  have hA88 := hk196 _ _ hA88
  have hA96 := hk196 _ _ hA96
  have hA104 := hk196 _ _ hA104
  have hA112 := hk196 _ _ hA112
  have hA120 := hk196 _ _ hA120
  have hA136 := hk196 _ _ hA136
  have hA144 := hk196 _ _ hA144
  have hA180 := hk196 _ _ hA180
  refine Jc_putF jf_X7_86 jt_X7_30 rfl (fun _ h => by cases h; rfl) dX7_init_198 hq rfl rfl (Nat.le_of_ble_eq_true rfl) (fun _ h => by cases h) hW (fun V198 hq hW hx198 hB198 => ?_)
  have hq : V198 q = some (.inr (5, [.int 0, .ref b7, .ref b15, .ref b24, .ref b32, .int 0, .ref b40, .ref b48, .ref b56, .ref b64, .ref b72, .ref b80, .ref b88, .ref b96, .ref b104, .ref b112, .ref b120, .ref b128, .ref b136, .ref b144, .ref b153, .ref b162, .int 0, .int 2, .int 2, .ref b180, .int 0, .int 0, .int 0, .ref b188, .ref b196, .null, .null, .null])) := hq
  have he := he.trans (hx198.sub (jsub_of rfl))
  have hb7 := hb7.mono hx198.1
  have hb15 := hb15.mono hx198.1
  have hb24 := hb24.mono hx198.1
  have hb32 := hb32.mono hx198.1
  have hb40 := hb40.mono hx198.1
  have hb48 := hb48.mono hx198.1
  have hb56 := hb56.mono hx198.1
  have hb64 := hb64.mono hx198.1
  have hb72 := hb72.mono hx198.1
  have hb80 := hb80.mono hx198.1
  have hb88 := hb88.mono hx198.1
  have hb96 := hb96.mono hx198.1
  have hb104 := hb104.mono hx198.1
  have hb112 := hb112.mono hx198.1
  have hb120 := hb120.mono hx198.1
  have hb128 := hb128.mono hx198.1
  have hb136 := hb136.mono hx198.1
  have hb144 := hb144.mono hx198.1
  have hb153 := hb153.mono hx198.1
  have hb162 := hb162.mono hx198.1
  have hb180 := hb180.mono hx198.1
  have hb188 := hb188.mono hx198.1
  have hb196 := hb196.mono hx198.1
  have hA80 := hx198.2 _ _ hA80 (jnot_of rfl)
  have hA88 := hx198.2 _ _ hA88 (jnot_of rfl)
  have hA96 := hx198.2 _ _ hA96 (jnot_of rfl)
  have hA104 := hx198.2 _ _ hA104 (jnot_of rfl)
  have hA112 := hx198.2 _ _ hA112 (jnot_of rfl)
  have hA120 := hx198.2 _ _ hA120 (jnot_of rfl)
  have hA136 := hx198.2 _ _ hA136 (jnot_of rfl)
  have hA144 := hx198.2 _ _ hA144 (jnot_of rfl)
  have hA180 := hx198.2 _ _ hA180 (jnot_of rfl)
  refine J_aload_n dX7_init_201 rfl ?_
  refine J_bipush (v := 37) dX7_init_202 (by decide) ?_
  refine Jc_newa (atype := .int) (t := 31) (B := 37) (x := .inl (fun _ => 0)) jw_ac_int rfl (fun _ h => by cases h) (by decide) dX7_init_204 (by decide) (by decide) (by decide) (fun _ _ => rfl) (fun hN => jok_zI rfl (by decide) (by decide) (fun m h => by cases h <;> rfl) hN) (by decide) (by decide) hW (fun b204 V204 hn204 hb204 hk204 hW hx204 => ?_)
  have hz204 := he.1.none hn204
  have he := he.trans (hx204.sub (jsub_of rfl))
  have hb7 := hb7.mono hx204.1
  have hb15 := hb15.mono hx204.1
  have hb24 := hb24.mono hx204.1
  have hb32 := hb32.mono hx204.1
  have hb40 := hb40.mono hx204.1
  have hb48 := hb48.mono hx204.1
  have hb56 := hb56.mono hx204.1
  have hb64 := hb64.mono hx204.1
  have hb72 := hb72.mono hx204.1
  have hb80 := hb80.mono hx204.1
  have hb88 := hb88.mono hx204.1
  have hb96 := hb96.mono hx204.1
  have hb104 := hb104.mono hx204.1
  have hb112 := hb112.mono hx204.1
  have hb120 := hb120.mono hx204.1
  have hb128 := hb128.mono hx204.1
  have hb136 := hb136.mono hx204.1
  have hb144 := hb144.mono hx204.1
  have hb153 := hb153.mono hx204.1
  have hb162 := hb162.mono hx204.1
  have hb180 := hb180.mono hx204.1
  have hb188 := hb188.mono hx204.1
  have hb196 := hb196.mono hx204.1
  have hq := hk204 _ _ hq
  have hA80 := hk204 _ _ hA80
  have hA88 := hk204 _ _ hA88
  have hA96 := hk204 _ _ hA96
  have hA104 := hk204 _ _ hA104
  have hA112 := hk204 _ _ hA112
  have hA120 := hk204 _ _ hA120
  have hA136 := hk204 _ _ hA136
  have hA144 := hk204 _ _ hA144
  have hA180 := hk204 _ _ hA180
  refine Jc_putF jf_X7_89 jt_X7_31 rfl (fun _ h => by cases h; rfl) dX7_init_206 hq rfl rfl (Nat.le_of_ble_eq_true rfl) (fun _ h => by cases h) hW (fun V206 hq hW hx206 hB206 => ?_)
  have hq : V206 q = some (.inr (5, [.int 0, .ref b7, .ref b15, .ref b24, .ref b32, .int 0, .ref b40, .ref b48, .ref b56, .ref b64, .ref b72, .ref b80, .ref b88, .ref b96, .ref b104, .ref b112, .ref b120, .ref b128, .ref b136, .ref b144, .ref b153, .ref b162, .int 0, .int 2, .int 2, .ref b180, .int 0, .int 0, .int 0, .ref b188, .ref b196, .ref b204, .null, .null])) := hq
  have he := he.trans (hx206.sub (jsub_of rfl))
  have hb7 := hb7.mono hx206.1
  have hb15 := hb15.mono hx206.1
  have hb24 := hb24.mono hx206.1
  have hb32 := hb32.mono hx206.1
  have hb40 := hb40.mono hx206.1
  have hb48 := hb48.mono hx206.1
  have hb56 := hb56.mono hx206.1
  have hb64 := hb64.mono hx206.1
  have hb72 := hb72.mono hx206.1
  have hb80 := hb80.mono hx206.1
  have hb88 := hb88.mono hx206.1
  have hb96 := hb96.mono hx206.1
  have hb104 := hb104.mono hx206.1
  have hb112 := hb112.mono hx206.1
  have hb120 := hb120.mono hx206.1
  have hb128 := hb128.mono hx206.1
  have hb136 := hb136.mono hx206.1
  have hb144 := hb144.mono hx206.1
  have hb153 := hb153.mono hx206.1
  have hb162 := hb162.mono hx206.1
  have hb180 := hb180.mono hx206.1
  have hb188 := hb188.mono hx206.1
  have hb196 := hb196.mono hx206.1
  have hb204 := hb204.mono hx206.1
  have hA80 := hx206.2 _ _ hA80 (jnot_of rfl)
  have hA88 := hx206.2 _ _ hA88 (jnot_of rfl)
  have hA96 := hx206.2 _ _ hA96 (jnot_of rfl)
  have hA104 := hx206.2 _ _ hA104 (jnot_of rfl)
  have hA112 := hx206.2 _ _ hA112 (jnot_of rfl)
  have hA120 := hx206.2 _ _ hA120 (jnot_of rfl)
  have hA136 := hx206.2 _ _ hA136 (jnot_of rfl)
  have hA144 := hx206.2 _ _ hA144 (jnot_of rfl)
  have hA180 := hx206.2 _ _ hA180 (jnot_of rfl)
  refine J_aload_n dX7_init_209 rfl ?_
  refine J_bipush (v := 37) dX7_init_210 (by decide) ?_
  refine Jc_newa (atype := .int) (t := 32) (B := 37) (x := .inl (fun _ => 0)) jw_ac_int rfl (fun _ h => by cases h) (by decide) dX7_init_212 (by decide) (by decide) (by decide) (fun _ _ => rfl) (fun hN => jok_zI rfl (by decide) (by decide) (fun m h => by cases h <;> rfl) hN) (by decide) (by decide) hW (fun b212 V212 hn212 hb212 hk212 hW hx212 => ?_)
  have hz212 := he.1.none hn212
  have he := he.trans (hx212.sub (jsub_of rfl))
  have hb7 := hb7.mono hx212.1
  have hb15 := hb15.mono hx212.1
  have hb24 := hb24.mono hx212.1
  have hb32 := hb32.mono hx212.1
  have hb40 := hb40.mono hx212.1
  have hb48 := hb48.mono hx212.1
  have hb56 := hb56.mono hx212.1
  have hb64 := hb64.mono hx212.1
  have hb72 := hb72.mono hx212.1
  have hb80 := hb80.mono hx212.1
  have hb88 := hb88.mono hx212.1
  have hb96 := hb96.mono hx212.1
  have hb104 := hb104.mono hx212.1
  have hb112 := hb112.mono hx212.1
  have hb120 := hb120.mono hx212.1
  have hb128 := hb128.mono hx212.1
  have hb136 := hb136.mono hx212.1
  have hb144 := hb144.mono hx212.1
  have hb153 := hb153.mono hx212.1
  have hb162 := hb162.mono hx212.1
  have hb180 := hb180.mono hx212.1
  have hb188 := hb188.mono hx212.1
  have hb196 := hb196.mono hx212.1
  have hb204 := hb204.mono hx212.1
  have hq := hk212 _ _ hq
  have hA80 := hk212 _ _ hA80
  have hA88 := hk212 _ _ hA88
  have hA96 := hk212 _ _ hA96
  have hA104 := hk212 _ _ hA104
  have hA112 := hk212 _ _ hA112
  have hA120 := hk212 _ _ hA120
  have hA136 := hk212 _ _ hA136
  have hA144 := hk212 _ _ hA144
  have hA180 := hk212 _ _ hA180
  refine Jc_putF jf_X7_92 jt_X7_32 rfl (fun _ h => by cases h; rfl) dX7_init_214 hq rfl rfl (Nat.le_of_ble_eq_true rfl) (fun _ h => by cases h) hW (fun V214 hq hW hx214 hB214 => ?_)
  have hq : V214 q = some (.inr (5, [.int 0, .ref b7, .ref b15, .ref b24, .ref b32, .int 0, .ref b40, .ref b48, .ref b56, .ref b64, .ref b72, .ref b80, .ref b88, .ref b96, .ref b104, .ref b112, .ref b120, .ref b128, .ref b136, .ref b144, .ref b153, .ref b162, .int 0, .int 2, .int 2, .ref b180, .int 0, .int 0, .int 0, .ref b188, .ref b196, .ref b204, .ref b212, .null])) := hq
  have he := he.trans (hx214.sub (jsub_of rfl))
  have hb7 := hb7.mono hx214.1
  have hb15 := hb15.mono hx214.1
  have hb24 := hb24.mono hx214.1
  have hb32 := hb32.mono hx214.1
  have hb40 := hb40.mono hx214.1
  have hb48 := hb48.mono hx214.1
  have hb56 := hb56.mono hx214.1
  have hb64 := hb64.mono hx214.1
  have hb72 := hb72.mono hx214.1
  have hb80 := hb80.mono hx214.1
  have hb88 := hb88.mono hx214.1
  have hb96 := hb96.mono hx214.1
  have hb104 := hb104.mono hx214.1
  have hb112 := hb112.mono hx214.1
  have hb120 := hb120.mono hx214.1
  have hb128 := hb128.mono hx214.1
  have hb136 := hb136.mono hx214.1
  have hb144 := hb144.mono hx214.1
  have hb153 := hb153.mono hx214.1
  have hb162 := hb162.mono hx214.1
  have hb180 := hb180.mono hx214.1
  have hb188 := hb188.mono hx214.1
  have hb196 := hb196.mono hx214.1
  have hb204 := hb204.mono hx214.1
  have hb212 := hb212.mono hx214.1
  have hA80 := hx214.2 _ _ hA80 (jnot_of rfl)
  have hA88 := hx214.2 _ _ hA88 (jnot_of rfl)
  have hA96 := hx214.2 _ _ hA96 (jnot_of rfl)
  have hA104 := hx214.2 _ _ hA104 (jnot_of rfl)
  have hA112 := hx214.2 _ _ hA112 (jnot_of rfl)
  have hA120 := hx214.2 _ _ hA120 (jnot_of rfl)
  have hA136 := hx214.2 _ _ hA136 (jnot_of rfl)
  have hA144 := hx214.2 _ _ hA144 (jnot_of rfl)
  have hA180 := hx214.2 _ _ hA180 (jnot_of rfl)
  refine J_aload_n dX7_init_217 rfl ?_
  refine J_bipush (v := 36) dX7_init_218 (by decide) ?_
  refine Jc_newa (atype := .int) (t := 33) (B := 36) (x := .inl (fun _ => 0)) jw_ac_int rfl (fun _ h => by cases h) (by decide) dX7_init_220 (by decide) (by decide) (by decide) (fun _ _ => rfl) (fun hN => jok_zI rfl (by decide) (by decide) (fun m h => by cases h <;> rfl) hN) (by decide) (by decide) hW (fun b220 V220 hn220 hb220 hk220 hW hx220 => ?_)
  have hz220 := he.1.none hn220
  have he := he.trans (hx220.sub (jsub_of rfl))
  have hb7 := hb7.mono hx220.1
  have hb15 := hb15.mono hx220.1
  have hb24 := hb24.mono hx220.1
  have hb32 := hb32.mono hx220.1
  have hb40 := hb40.mono hx220.1
  have hb48 := hb48.mono hx220.1
  have hb56 := hb56.mono hx220.1
  have hb64 := hb64.mono hx220.1
  have hb72 := hb72.mono hx220.1
  have hb80 := hb80.mono hx220.1
  have hb88 := hb88.mono hx220.1
  have hb96 := hb96.mono hx220.1
  have hb104 := hb104.mono hx220.1
  have hb112 := hb112.mono hx220.1
  have hb120 := hb120.mono hx220.1
  have hb128 := hb128.mono hx220.1
  have hb136 := hb136.mono hx220.1
  have hb144 := hb144.mono hx220.1
  have hb153 := hb153.mono hx220.1
  have hb162 := hb162.mono hx220.1
  have hb180 := hb180.mono hx220.1
  have hb188 := hb188.mono hx220.1
  have hb196 := hb196.mono hx220.1
  have hb204 := hb204.mono hx220.1
  have hb212 := hb212.mono hx220.1
  have hq := hk220 _ _ hq
  have hA80 := hk220 _ _ hA80
  have hA88 := hk220 _ _ hA88
  have hA96 := hk220 _ _ hA96
  have hA104 := hk220 _ _ hA104
  have hA112 := hk220 _ _ hA112
  have hA120 := hk220 _ _ hA120
  have hA136 := hk220 _ _ hA136
  have hA144 := hk220 _ _ hA144
  have hA180 := hk220 _ _ hA180
  refine Jc_putF jf_X7_95 jt_X7_33 rfl (fun _ h => by cases h; rfl) dX7_init_222 hq rfl rfl (Nat.le_of_ble_eq_true rfl) (fun _ h => by cases h) hW (fun V222 hq hW hx222 hB222 => ?_)
  have hq : V222 q = some (.inr (5, [.int 0, .ref b7, .ref b15, .ref b24, .ref b32, .int 0, .ref b40, .ref b48, .ref b56, .ref b64, .ref b72, .ref b80, .ref b88, .ref b96, .ref b104, .ref b112, .ref b120, .ref b128, .ref b136, .ref b144, .ref b153, .ref b162, .int 0, .int 2, .int 2, .ref b180, .int 0, .int 0, .int 0, .ref b188, .ref b196, .ref b204, .ref b212, .ref b220])) := hq
  have he := he.trans (hx222.sub (jsub_of rfl))
  have hb7 := hb7.mono hx222.1
  have hb15 := hb15.mono hx222.1
  have hb24 := hb24.mono hx222.1
  have hb32 := hb32.mono hx222.1
  have hb40 := hb40.mono hx222.1
  have hb48 := hb48.mono hx222.1
  have hb56 := hb56.mono hx222.1
  have hb64 := hb64.mono hx222.1
  have hb72 := hb72.mono hx222.1
  have hb80 := hb80.mono hx222.1
  have hb88 := hb88.mono hx222.1
  have hb96 := hb96.mono hx222.1
  have hb104 := hb104.mono hx222.1
  have hb112 := hb112.mono hx222.1
  have hb120 := hb120.mono hx222.1
  have hb128 := hb128.mono hx222.1
  have hb136 := hb136.mono hx222.1
  have hb144 := hb144.mono hx222.1
  have hb153 := hb153.mono hx222.1
  have hb162 := hb162.mono hx222.1
  have hb180 := hb180.mono hx222.1
  have hb188 := hb188.mono hx222.1
  have hb196 := hb196.mono hx222.1
  have hb204 := hb204.mono hx222.1
  have hb212 := hb212.mono hx222.1
  have hb220 := hb220.mono hx222.1
  have hA80 := hx222.2 _ _ hA80 (jnot_of rfl)
  have hA88 := hx222.2 _ _ hA88 (jnot_of rfl)
  have hA96 := hx222.2 _ _ hA96 (jnot_of rfl)
  have hA104 := hx222.2 _ _ hA104 (jnot_of rfl)
  have hA112 := hx222.2 _ _ hA112 (jnot_of rfl)
  have hA120 := hx222.2 _ _ hA120 (jnot_of rfl)
  have hA136 := hx222.2 _ _ hA136 (jnot_of rfl)
  have hA144 := hx222.2 _ _ hA144 (jnot_of rfl)
  have hA180 := hx222.2 _ _ hA180 (jnot_of rfl)
  exact J_ret (r := none) dX7_init_225 ⟨rfl, rfl⟩ (⟨rfl, hW.fin hq (jokO_cons ⟨_, rfl, by first | decide | assumption | omega, by first | decide | assumption | omega⟩ (jokO_cons ⟨_, rfl, hb7⟩ (jokO_cons ⟨_, rfl, hb15⟩ (jokO_cons ⟨_, rfl, hb24⟩ (jokO_cons ⟨_, rfl, hb32⟩ (jokO_cons ⟨_, rfl, by first | decide | assumption | omega, by first | decide | assumption | omega⟩ (jokO_cons ⟨_, rfl, hb40⟩ (jokO_cons ⟨_, rfl, hb48⟩ (jokO_cons ⟨_, rfl, hb56⟩ (jokO_cons ⟨_, rfl, hb64⟩ (jokO_cons ⟨_, rfl, hb72⟩ (jokO_cons ⟨_, rfl, hb80⟩ (jokO_cons ⟨_, rfl, hb88⟩ (jokO_cons ⟨_, rfl, hb96⟩ (jokO_cons ⟨_, rfl, hb104⟩ (jokO_cons ⟨_, rfl, hb112⟩ (jokO_cons ⟨_, rfl, hb120⟩ (jokO_cons ⟨_, rfl, hb128⟩ (jokO_cons ⟨_, rfl, hb136⟩ (jokO_cons ⟨_, rfl, hb144⟩ (jokO_cons ⟨_, rfl, hb153⟩ (jokO_cons ⟨_, rfl, hb162⟩ (jokO_cons ⟨_, rfl, (j_rng _).1, (j_rng _).2⟩ (jokO_cons ⟨_, rfl, by first | decide | assumption | omega, by first | decide | assumption | omega⟩ (jokO_cons ⟨_, rfl, by first | decide | assumption | omega, by first | decide | assumption | omega⟩ (jokO_cons ⟨_, rfl, hb180⟩ (jokO_cons ⟨_, rfl, by first | decide | assumption | omega, by first | decide | assumption | omega⟩ (jokO_cons ⟨_, rfl, by first | decide | assumption | omega, by first | decide | assumption | omega⟩ (jokO_cons ⟨_, rfl, (j_rng _).1, (j_rng _).2⟩ (jokO_cons ⟨_, rfl, hb188⟩ (jokO_cons ⟨_, rfl, hb196⟩ (jokO_cons ⟨_, rfl, hb204⟩ (jokO_cons ⟨_, rfl, hb212⟩ (jokO_cons ⟨_, rfl, hb220⟩ (jokO_nil))))))))))))))))))))))))))))))))))), he, ⟨_, hq, rfl⟩, ⟨_, hq, rfl⟩, ⟨_, hq, rfl⟩, ⟨_, hq, rfl⟩, ⟨_, _, hq, rfl, hA180⟩, jRM.init hq rfl rfl rfl rfl rfl rfl hA80 hA88 hA96 hA104 hA112 hA120, jRF.init hq rfl rfl hA136 hA144⟩)
