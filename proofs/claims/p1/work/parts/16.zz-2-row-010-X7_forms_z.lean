set_option maxRecDepth 100000 in
set_option maxHeartbeats 8000000 in
theorem w_X7_forms_z {tS : jTS} (d : Nat) (V0 : jH) (a0 : Nat) (x1 : Int32) (x2 : Int32) (hd : 5 ≤ d) (hW : WT V0) (ha0 : jis V0 (.inr 5) a0) (hct : jRM V0 a0) (hrf : jRF V0 a0) : jTot tS mX7_forms d [.ref a0, .int x1, .int x2] V0 0 0 (fun r V => (jPost [.inl 17, .inl 18, .inl 19, .inl 20, .inl 21, .inl 23, .inl 24, .inl 25, .inl 26, .inl 27, .inl 40, .inl 41, .inl 46, .inr 5] V0 (fun r _ => ∃ y : Int32, r = some (.int y) ∧ ((-2147483648) ≤ y.toInt) ∧ (y.toInt ≤ 2147483647) ∧ (((0 ≤ x1.toInt ∧ x1.toInt ≤ 3 ∧ 0 ≤ x2.toInt ∧ x2.toInt ≤ 7) ∧ (((600000 < jTT x1.toInt x2.toInt.toNat jL0 ∨ 3000 < (jrq x1.toInt x2.toInt.toNat).1) ∧ y.toInt = -5) ∨ (¬ (600000 < jTT x1.toInt x2.toInt.toNat jL0 ∨ 3000 < (jrq x1.toInt x2.toInt.toNat).1) ∧ y.toInt = ((jfo x1.toInt x2.toInt.toNat : Nat) : Int)))) ∨ (¬ (0 ≤ x1.toInt ∧ x1.toInt ≤ 3 ∧ 0 ≤ x2.toInt ∧ x2.toInt ≤ 7) ∧ y.toInt = -2)))) r V ∧ jRM V a0 ∧ jRF V a0 ∧ jkc 5 [0, 23, 24, 26, 27, 28] V0 V) := by
  refine jTot.of_J [some (.ref a0), some (.int x1), some (.int x2), none, none, none] moX7_forms (Nat.le_of_ble_eq_true rfl) rfl ?_
  have hrx1 := j_rng x1
  have hrx2 := j_rng x2
  have he : jeff [.inl 17, .inl 18, .inl 19, .inl 20, .inl 21, .inl 23, .inl 24, .inl 25, .inl 26, .inl 27, .inl 40, .inl 41, .inl 46, .inr 5] V0 V0 := jeff.refl _ _
  have hkp : jkc 5 [0, 23, 24, 26, 27, 28] V0 V0 := jkc.rf
  obtain ⟨kn, co, sq, rg, bg, se, KN, CO, SQ, RG, BG, SE, ⟨m1, m2, m3, m4, m5, m6⟩, ⟨k1, k2, k3, k4, k5, k6⟩, hsn0, hmo⟩ := id hct
  obtain ⟨ms, hM, g11⟩ := id m1
  have g12 := m2.get hM
  have g13 := m3.get hM
  have g14 := m4.get hM
  have g15 := m5.get hM
  have g16 := m6.get hM
  have hKm : jokO V0 (jFs 5) ms := hW _ _ id hM
  have hbm1 : jis V0 (.inl 40) kn := ⟨_, k1, rfl⟩
  have hbm2 : jis V0 (.inl 23) co := ⟨_, k2, rfl⟩
  have hbm3 : jis V0 (.inl 46) sq := ⟨_, k3, rfl⟩
  have hbm4 : jis V0 (.inl 24) rg := ⟨_, k4, rfl⟩
  have hbm5 : jis V0 (.inl 25) bg := ⟨_, k5, rfl⟩
  have hbm6 : jis V0 (.inl 41) se := ⟨_, k6, rfl⟩
  obtain ⟨fd, rd, FD, RD, f1, f2, d1, d2, w1, w2⟩ := id hrf
  have g18 := f1.get hM
  have g19 := f2.get hM
  have hbfd : jis V0 (.inl 27) fd := ⟨_, d1, rfl⟩
  have hbrd : jis V0 (.inl 28) rd := ⟨_, d2, rfl⟩
  obtain ⟨hNFD, hvFD⟩ := WT_rngI (r := ((-2147483648), 2147483647)) hW id rfl d1
  clear hNFD
  obtain ⟨hNRD, hvRD⟩ := WT_rngI (r := ((-2147483648), 2147483647)) hW id rfl d2
  clear hNRD
  refine J_iload_n dX7_forms_0 rfl ?_
  refine J_callS1 moX7_isGround jw_ml_X7_184 jw_st_X7_isGround dX7_forms_1 (w_X7_isGround_y (d - 1) _ x1 (by omega)   ) (by omega) (Nat.zero_le _) (Nat.zero_le _) (Nat.le_of_ble_eq_true rfl) (fun r1 V1 h1 => ?_)
  obtain ⟨⟨y1, rfl, hl1, hh1, hP1_0⟩, hE1⟩ := h1
  have hE1 := hE1.symm
  subst hE1
  refine Jz_if_eq (tgt := 17) jEq.rf dX7_forms_4 (by decide) (fun c4 => ?_) (fun c4 => ?_)
  · refine Jz_bipush (-2) dX7_forms_17 (by decide) (fun y17 he17 => ?_)
    exact J_ret (r := some (.int _)) dX7_forms_19 ⟨rfl, _, rfl, rfl⟩ (⟨⟨hW, he, ⟨_, rfl, (j_rng _).1, (j_rng _).2, (Or.inr ⟨(by omega), he17.eq⟩)⟩⟩, hct, hrf, hkp⟩)
  · refine J_iload_n dX7_forms_7 rfl ?_
    refine Jz_iconst 0 dX7_forms_8 (by decide) (fun y8 he8 => ?_)
    refine Jz_bipush 7 dX7_forms_9 (by decide) (fun y9 he9 => ?_)
    refine J_callS3 moX7_in jw_ml_X7_105 jw_st_X7_in dX7_forms_11 (w_X7_in_y (d - 1) _ x2 y8 y9 (by omega)   ) (by omega) (Nat.zero_le _) (Nat.zero_le _) (Nat.le_of_ble_eq_true rfl) (fun r11 V11 h11 => ?_)
    obtain ⟨⟨y11, rfl, hl11, hh11, hP11_0⟩, hE11⟩ := h11
    have hE11 := hE11.symm
    subst hE11
    try simp only [he8.eq, he9.eq] at hP11_0
    refine Jz_if_ne (tgt := 20) jEq.rf dX7_forms_14 (by decide) (fun c14 => ?_) (fun c14 => ?_)
    · refine J_aload_n dX7_forms_20 rfl ?_
      refine J_iload_n dX7_forms_21 rfl ?_
      refine J_iload_n dX7_forms_22 rfl ?_
      have hig : ((x1.toInt.toNat : Nat) : Int) = x1.toInt := by omega
      have hix : 21 * x1.toInt.toNat + x2.toInt.toNat = (21 * x1.toInt + x2.toInt).toNat := by omega
      have hmo0 : jmo x1.toInt x2.toInt.toNat KN CO SQ RG BG (21 * x1.toInt + x2.toInt).toNat := by
          have q := hmo x1.toInt.toNat x2.toInt.toNat (by omega) (by omega)
          rw [hig, hix] at q
          exact q
      obtain ⟨w23p4, hF23p4, b23p4, rfl, hb23p4⟩ := hKm.2 4 (.inr (some (.inl 17))) rfl
      obtain ⟨w23p6, hF23p6, b23p6, rfl, hb23p6⟩ := hKm.2 6 (.inr (some (.inl 18))) rfl
      obtain ⟨w23p7, hF23p7, b23p7, rfl, hb23p7⟩ := hKm.2 7 (.inr (some (.inl 19))) rfl
      obtain ⟨w23p8, hF23p8, b23p8, rfl, hb23p8⟩ := hKm.2 8 (.inr (some (.inl 20))) rfl
      obtain ⟨w23p17, hF23p17, b23p17, rfl, hb23p17⟩ := hKm.2 17 (.inr (some (.inl 26))) rfl
      obtain ⟨n23q17, f23q17, hA23q17, hN23q17, hM23q17, hv23q17⟩ := WT_arrI (r := (-2147483648, 2147483647)) hW id rfl hb23p4
      obtain rfl := hM23q17 120 rfl
      clear hN23q17 hM23q17
      obtain ⟨n23q18, f23q18, hA23q18, hN23q18, hM23q18, hv23q18⟩ := WT_arrI (r := (-2147483648, 2147483647)) hW id rfl hb23p6
      obtain rfl := hM23q18 121 rfl
      clear hN23q18 hM23q18
      obtain ⟨n23q19, f23q19, hA23q19, hN23q19, hM23q19, hv23q19⟩ := WT_arrI (r := (-2147483648, 2147483647)) hW id rfl hb23p7
      obtain rfl := hM23q19 121 rfl
      clear hN23q19 hM23q19
      obtain ⟨n23q20, f23q20, hA23q20, hN23q20, hM23q20, hv23q20⟩ := WT_arrI (r := (-2147483648, 2147483647)) hW id rfl hb23p8
      obtain rfl := hM23q20 121 rfl
      clear hN23q20 hM23q20
      obtain ⟨n23q26, f23q26, hA23q26, hN23q26, hM23q26, hv23q26⟩ := WT_arrI (r := (-2147483648, 2147483647)) hW id rfl hb23p17
      obtain rfl := hM23q26 22 rfl
      clear hN23q26 hM23q26
      refine Jw_callV2 (q9 := (RX7, TX7, 34)) moX7_counts jw_ml_X7_187 jw_im_X7_counts jw_se_X7_counts ha0 rfl rfl dX7_forms_23 (w_X7_counts_z (d - 1) _ a0 x1 x2 b23p4 b23p6 b23p7 b23p8 kn co sq rg bg se b23p17 f23q17 f23q18 f23q19 f23q20 KN CO SQ RG BG SE f23q26 (by omega) hW  ha0 ⟨_, hM, hF23p4⟩ ⟨_, hM, hF23p6⟩ ⟨_, hM, hF23p7⟩ ⟨_, hM, hF23p8⟩ ⟨_, hM, g11⟩ ⟨_, hM, g12⟩ ⟨_, hM, g13⟩ ⟨_, hM, g14⟩ ⟨_, hM, g15⟩ ⟨_, hM, g16⟩ ⟨_, hM, hF23p17⟩ hA23q17 hA23q18 hA23q19 hA23q20 k1 k2 k3 k4 k5 k6 hA23q26 (by omega) (by omega) (by omega) (by omega) hsn0 hmo0) (by omega) (Nat.zero_le _) (Nat.zero_le _) (Nat.le_of_ble_eq_true rfl) (fun r23 V23 h23 => ?_)
      obtain ⟨h23, hX23_0, hX23_1⟩ := h23
      obtain ⟨hW, hx23, hr23⟩ := h23
      have he := he.trans (hx23.sub (jsub_of rfl))
      have hkp := hkp.trans hX23_1
      have ha0 := ha0.mono hx23.1
      have hbm1 := hbm1.mono hx23.1
      have hbm2 := hbm2.mono hx23.1
      have hbm3 := hbm3.mono hx23.1
      have hbm4 := hbm4.mono hx23.1
      have hbm5 := hbm5.mono hx23.1
      have hbm6 := hbm6.mono hx23.1
      have hbfd := hbfd.mono hx23.1
      have hbrd := hbrd.mono hx23.1
      have hb23p4 := hb23p4.mono hx23.1
      have hb23p6 := hb23p6.mono hx23.1
      have hb23p7 := hb23p7.mono hx23.1
      have hb23p8 := hb23p8.mono hx23.1
      have hb23p17 := hb23p17.mono hx23.1
      obtain ⟨fs23a0, hOfs23a0, hRfs23a0⟩ := hx23.1.keep hM
      have hKfs23a0 : jokO _ (jFs 5) fs23a0 := hW _ _ id hOfs23a0
      have hFfs23a0_11 := hRfs23a0 _ _ g11
      have hFfs23a0_12 := hRfs23a0 _ _ g12
      have hFfs23a0_13 := hRfs23a0 _ _ g13
      have hFfs23a0_14 := hRfs23a0 _ _ g14
      have hFfs23a0_15 := hRfs23a0 _ _ g15
      have hFfs23a0_16 := hRfs23a0 _ _ g16
      have hFfs23a0_18 := hRfs23a0 _ _ g18
      have hFfs23a0_19 := hRfs23a0 _ _ g19
      have hFfs23a0_4 := hRfs23a0 _ _ hF23p4
      have hFfs23a0_6 := hRfs23a0 _ _ hF23p6
      have hFfs23a0_7 := hRfs23a0 _ _ hF23p7
      have hFfs23a0_8 := hRfs23a0 _ _ hF23p8
      have hFfs23a0_17 := hRfs23a0 _ _ hF23p17
      have d1 := hx23.2 _ _ d1 (jnot_of rfl)
      have d2 := hx23.2 _ _ d2 (jnot_of rfl)
      cases hr23
      obtain ⟨KN23, CO23, SQ23, RG23, BG23, SE23, b1, b2, b3, b4, b5, b6, hsn, hkn, hmk, hko, hot⟩ := hX23_0
      have hct : jRM V23 a0 := jRM.upd (g := x1.toInt.toNat) (n := x2.toInt.toNat) (by omega) (by omega) m1 m2 m3 m4 m5 m6 he b1 b2 b3 b4 b5 b6 hsn (by rw [hix]; exact hkn) (by rw [hig, hix]; exact hmk) (by rw [hix]; exact hko) (by rw [hix]; exact hot) hmo
      have hjb : 3 ≤ jdir x1.toInt ∧ jdir x1.toInt ≤ 6 := by have q := jdir_cases x1.toInt; omega
      have hix8 : (8 * x1.toInt + x2.toInt).toNat = 8 * x1.toInt.toNat + x2.toInt.toNat := by omega
      obtain ⟨hN_KN23, hv_KN23⟩ := WT_rngI (r := (0, 1)) hW id rfl b1
      clear hN_KN23
      obtain ⟨hN_CO23, hv_CO23⟩ := WT_rngI (r := ((-2147483648), 2147483647)) hW id rfl b2
      clear hN_CO23
      obtain ⟨hN_RG23, hv_RG23⟩ := WT_rngI (r := ((-2147483648), 2147483647)) hW id rfl b4
      clear hN_RG23
      obtain ⟨hN_BG23, hv_BG23⟩ := WT_rngI (r := ((-2147483648), 2147483647)) hW id rfl b5
      clear hN_BG23
      obtain ⟨hN_SE23, hv_SE23⟩ := WT_rngI (r := (0, 1)) hW id rfl b6
      clear hN_SE23
      refine J_aload_n dX7_forms_26 rfl ?_
      refine J_get jf_X7_41 dX7_forms_27 hOfs23a0 hFfs23a0_12 ?_
      refine Jz_bipush 21 dX7_forms_30 (by decide) (fun y30 he30 => ?_)
      refine J_iload_n dX7_forms_32 rfl ?_
      refine Jz_imul he30 jEq.rf dX7_forms_33 (by omega) (by omega) (fun y33 he33 => ?_)
      refine J_iload_n dX7_forms_34 rfl ?_
      refine Jz_iadd he33 jEq.rf dX7_forms_35 (by omega) (by omega) (fun y35 he35 => ?_)
      refine Jz_iald (r := ((-2147483648), 2147483647)) he35 dX7_forms_36 b2 rfl hv_CO23 (by omega) (by omega) (fun y36 hf36 hl36 hh36 => ?_)
      dsimp only at hl36 hh36
      clear hl36 hh36
      have e36 : (CO23 (21 * x1.toInt + x2.toInt).toNat).toInt = y36.toInt := by rw [hf36]
      refine Jz_bipush (-5) dX7_forms_37 (by decide) (fun y37 he37 => ?_)
      refine Jz_icmp_eq (tgt := 59) jEq.rf he37 dX7_forms_39 (by decide) (fun c39 => ?_) (fun c39 => ?_)
      · refine Jz_bipush (-5) dX7_forms_59 (by decide) (fun y59 he59 => ?_)
        exact J_ret (r := some (.int _)) dX7_forms_61 ⟨rfl, _, rfl, rfl⟩ (⟨⟨hW, he, ⟨_, rfl, (j_rng _).1, (j_rng _).2, (Or.inl ⟨by omega, Or.inl ⟨hmk.co.elim (fun q => absurd q.2.1 (by rw [e36]; omega)) (fun q => Or.inl q.1), he59.eq⟩⟩)⟩⟩, hct, ⟨fd, rd, FD, RD, f1.mono he.1, f2.mono he.1, d1, d2, w1, w2⟩, hkp⟩)
      · refine J_aload_n dX7_forms_42 rfl ?_
        refine J_get jf_X7_41 dX7_forms_43 hOfs23a0 hFfs23a0_12 ?_
        refine Jz_bipush 21 dX7_forms_46 (by decide) (fun y46 he46 => ?_)
        refine J_iload_n dX7_forms_48 rfl ?_
        refine Jz_imul he46 jEq.rf dX7_forms_49 (by omega) (by omega) (fun y49 he49 => ?_)
        refine J_iload_n dX7_forms_50 rfl ?_
        refine Jz_iadd he49 jEq.rf dX7_forms_51 (by omega) (by omega) (fun y51 he51 => ?_)
        refine Jz_iald (r := ((-2147483648), 2147483647)) he51 dX7_forms_52 b2 rfl hv_CO23 (by omega) (by omega) (fun y52 hf52 hl52 hh52 => ?_)
        dsimp only at hl52 hh52
        clear hl52 hh52
        have he52 : jEq y52.toInt (y36.toInt) := by rw [← hf52, hf36]; exact jEq.rf
        refine Jz_sipush 3000 dX7_forms_53 (by decide) (fun y53 he53 => ?_)
        refine Jz_icmp_le (tgt := 62) he52 he53 dX7_forms_56 (by decide) (fun c56 => ?_) (fun c56 => ?_)
        · have hns : ¬ (600000 < jTT x1.toInt x2.toInt.toNat jL0 ∨ 3000 < (jrq x1.toInt x2.toInt.toNat).1) := (fun z => hmk.co.elim (fun q => z.elim (fun w => absurd w (by omega)) (fun w => by have v := q.2.2.1; rw [e36] at v; omega)) (fun q => absurd (show y36.toInt = -5 by rw [← e36]; exact q.2) (by omega)))
          refine Jz_bipush 8 dX7_forms_62 (by decide) (fun y62 he62 => ?_)
          refine J_iload_n dX7_forms_64 rfl ?_
          refine Jz_imul he62 jEq.rf dX7_forms_65 (by omega) (by omega) (fun y65 he65 => ?_)
          refine J_iload_n dX7_forms_66 rfl ?_
          refine Jz_iadd he65 jEq.rf dX7_forms_67 (by omega) (by omega) (fun y67 he67 => ?_)
          refine J_istore_n dX7_forms_68 rfl (by decide) ?_
          refine J_aload_n dX7_forms_69 rfl ?_
          refine J_get jf_X7_61 dX7_forms_70 hOfs23a0 hFfs23a0_18 ?_
          refine J_iload_n dX7_forms_73 rfl ?_
          refine Jz_iald (r := ((-2147483648), 2147483647)) he67 dX7_forms_74 d1 rfl hvFD (by omega) (by omega) (fun y74 hf74 hl74 hh74 => ?_)
          dsimp only at hl74 hh74
          clear hl74 hh74
          have e74 : (FD (8 * x1.toInt + x2.toInt).toNat).toInt = y74.toInt := by rw [hf74]
          refine Jz_if_ne (tgt := 142) jEq.rf dX7_forms_75 (by decide) (fun c75 => ?_) (fun c75 => ?_)
          · refine J_aload_n dX7_forms_142 rfl ?_
            refine J_get jf_X7_61 dX7_forms_143 hOfs23a0 hFfs23a0_18 ?_
            refine J_iload_n dX7_forms_146 rfl ?_
            refine Jz_iald (r := ((-2147483648), 2147483647)) he67 dX7_forms_147 d1 rfl hvFD (by omega) (by omega) (fun y147 hf147 hl147 hh147 => ?_)
            dsimp only at hl147 hh147
            clear hl147 hh147
            have he147 : jEq y147.toInt (y74.toInt) := by rw [← hf147, hf74]; exact jEq.rf
            exact J_ret (r := some (.int _)) dX7_forms_148 ⟨rfl, _, rfl, rfl⟩ (⟨⟨hW, he, ⟨_, rfl, (j_rng _).1, (j_rng _).2, (Or.inl ⟨by omega, Or.inr ⟨hns, by rw [he147.eq]; have q := w1 x1.toInt.toNat x2.toInt.toNat (by omega) (by omega); rw [← hix8, e74, hig] at q; exact q.elim (fun w => absurd w c75) id⟩⟩)⟩⟩, hct, ⟨fd, rd, FD, RD, f1.mono he.1, f2.mono he.1, d1, d2, w1, w2⟩, hkp⟩)
          · refine J_iload_n dX7_forms_78 rfl ?_
            refine J_callS1 moX7_directions jw_ml_X7_133 jw_st_X7_directions dX7_forms_79 (w_X7_directions (d - 1) _ x1 (by omega)   ) (by omega) (Nat.zero_le _) (Nat.zero_le _) (Nat.le_of_ble_eq_true rfl) (fun r79 V79 h79 => ?_)
            obtain ⟨⟨y79, rfl, hl79, hh79, hP79_0⟩, hE79⟩ := h79
            have hE79 := hE79.symm
            subst hE79
            have hz79 : jEq y79.toInt (jdir (x1.toInt)) := hP79_0
            simp only [hP79_0] at hl79 hh79
            clear hP79_0
            refine J_iload_n dX7_forms_82 rfl ?_
            refine J_callS2 moX7_power jw_ml_X7_195 jw_st_X7_power dX7_forms_83 (w_X7_power_z (d - 1) _ y79 x2 (by omega)   (by rw [hz79.eq]; omega) (by rw [hz79.eq]; omega) (by omega) (by omega)) (by omega) (Nat.zero_le _) (Nat.zero_le _) (Nat.le_of_ble_eq_true rfl) (fun r83 V83 h83 => ?_)
            obtain ⟨⟨y83, rfl, hl83, hh83, hP83_0⟩, hE83⟩ := h83
            have hE83 := hE83.symm
            subst hE83
            clear hl83 hh83
            try simp only [hz79.eq] at hP83_0
            have hpb := jpow7 (D := (jdir x1.toInt).toNat) (k := x2.toInt.toNat) (by omega) (by omega)
            refine J_istore dX7_forms_86 rfl (by decide) ?_
            refine Jz_iconst 0 dX7_forms_88 (by decide) (fun y88 he88 => ?_)
            refine J_istore dX7_forms_89 rfl (by decide) ?_
            have L91 : ∀ (N : Nat) (V : jH) (i5n91 : Int32) (gs91a0 : List Value) (F27n91 : Nat → Int32), WT V → jeff [.inl 17, .inl 18, .inl 19, .inl 20, .inl 21, .inl 23, .inl 24, .inl 25, .inl 26, .inl 27, .inl 40, .inl 41, .inl 46, .inr 5] V0 V → (jis V (.inr 5) a0) → (jis V (.inl 40) kn) → (jis V (.inl 23) co) → (jis V (.inl 46) sq) → (jis V (.inl 24) rg) → (jis V (.inl 25) bg) → (jis V (.inl 41) se) → (jis V (.inl 27) fd) → (jis V (.inl 28) rd) → (jis V (.inl 17) b23p4) → (jis V (.inl 18) b23p6) → (jis V (.inl 19) b23p7) → (jis V (.inl 20) b23p8) → (jis V (.inl 26) b23p17) → (jkc 5 [0, 23, 24, 26, 27, 28] V0 V) → (jRM V a0) → (V a0 = some (.inr (5, gs91a0))) → (gs91a0[11]? = some (.ref kn)) → (gs91a0[12]? = some (.ref co)) → (gs91a0[13]? = some (.ref sq)) → (gs91a0[14]? = some (.ref rg)) → (gs91a0[15]? = some (.ref bg)) → (gs91a0[16]? = some (.ref se)) → (gs91a0[18]? = some (.ref fd)) → (gs91a0[19]? = some (.ref rd)) → (gs91a0[4]? = some (.ref b23p4)) → (gs91a0[6]? = some (.ref b23p6)) → (gs91a0[7]? = some (.ref b23p7)) → (gs91a0[8]? = some (.ref b23p8)) → (gs91a0[17]? = some (.ref b23p17)) → (V fd = some (.inl (27, 32, .inl F27n91))) → (V rd = some (.inl (28, 28, .inl RD))) → (0 ≤ i5n91.toInt ∧ i5n91.toInt ≤ (((jdir x1.toInt).toNat ^ x2.toInt.toNat : Nat) : Int)) → ((F27n91 (8 * x1.toInt + x2.toInt).toNat).toInt = ((jsu (jffo x1.toInt (jdir x1.toInt).toNat x2.toInt.toNat) i5n91.toInt.toNat : Nat) : Int)) → (∀ i : Nat, i ≠ (8 * x1.toInt + x2.toInt).toNat → F27n91 i = FD i) → (300000 - i5n91.toInt).toNat < N → J tS mX7_forms d 91 [some (.ref a0), some (.int x1), some (.int x2), some (.int y67), some (.int y83), some (.int i5n91)] [] V 0 0 (fun r V => (jPost [.inl 17, .inl 18, .inl 19, .inl 20, .inl 21, .inl 23, .inl 24, .inl 25, .inl 26, .inl 27, .inl 40, .inl 41, .inl 46, .inr 5] V0 (fun r _ => ∃ y : Int32, r = some (.int y) ∧ ((-2147483648) ≤ y.toInt) ∧ (y.toInt ≤ 2147483647) ∧ (((0 ≤ x1.toInt ∧ x1.toInt ≤ 3 ∧ 0 ≤ x2.toInt ∧ x2.toInt ≤ 7) ∧ (((600000 < jTT x1.toInt x2.toInt.toNat jL0 ∨ 3000 < (jrq x1.toInt x2.toInt.toNat).1) ∧ y.toInt = -5) ∨ (¬ (600000 < jTT x1.toInt x2.toInt.toNat jL0 ∨ 3000 < (jrq x1.toInt x2.toInt.toNat).1) ∧ y.toInt = ((jfo x1.toInt x2.toInt.toNat : Nat) : Int)))) ∨ (¬ (0 ≤ x1.toInt ∧ x1.toInt ≤ 3 ∧ 0 ≤ x2.toInt ∧ x2.toInt ≤ 7) ∧ y.toInt = -2)))) r V ∧ jRM V a0 ∧ jRF V a0 ∧ jkc 5 [0, 23, 24, 26, 27, 28] V0 V) := by
              intro N
              induction N with
              | zero => intro V i5n91 gs91a0 F27n91 hW he ha0 hbm1 hbm2 hbm3 hbm4 hbm5 hbm6 hbfd hbrd hb23p4 hb23p6 hb23p7 hb23p8 hb23p17 hkp hct hOgs91a0 hFgs91a0_11 hFgs91a0_12 hFgs91a0_13 hFgs91a0_14 hFgs91a0_15 hFgs91a0_16 hFgs91a0_18 hFgs91a0_19 hFgs91a0_4 hFgs91a0_6 hFgs91a0_7 hFgs91a0_8 hFgs91a0_17 hAF27n91 d2 hi5 hsum hoth hm; exact absurd hm (Nat.not_lt_zero _)
              | succ N ih =>
                intro V i5n91 gs91a0 F27n91 hW he ha0 hbm1 hbm2 hbm3 hbm4 hbm5 hbm6 hbfd hbrd hb23p4 hb23p6 hb23p7 hb23p8 hb23p17 hkp hct hOgs91a0 hFgs91a0_11 hFgs91a0_12 hFgs91a0_13 hFgs91a0_14 hFgs91a0_15 hFgs91a0_16 hFgs91a0_18 hFgs91a0_19 hFgs91a0_4 hFgs91a0_6 hFgs91a0_7 hFgs91a0_8 hFgs91a0_17 hAF27n91 d2 hi5 hsum hoth hm
                have ih91 := ih
                have hri5 := j_rng i5n91
                have hKgs91a0 : jokO V (jFs 5) gs91a0 := hW _ _ id hOgs91a0
                obtain ⟨hNF27n91, hvF27n91⟩ := WT_rngI (r := ((-2147483648), 2147483647)) hW id rfl hAF27n91
                clear hNF27n91
                refine J_iload dX7_forms_91 rfl ?_
                refine J_iload dX7_forms_93 rfl ?_
                refine Jz_icmp_ge (tgt := 142) jEq.rf jEq.rf dX7_forms_95 (by decide) (fun c95 => ?_) (fun c95 => ?_)
                · have hfin : (F27n91 (8 * x1.toInt + x2.toInt).toNat).toInt = ((jfo x1.toInt x2.toInt.toNat : Nat) : Int) := by
                    rw [hsum, show i5n91.toInt.toNat = (jdir x1.toInt).toNat ^ x2.toInt.toNat by omega]
                    exact congrArg (fun z : Nat => (z : Int)) (jfc_all rfl (by omega) (fun _ => 0)).symm
                  refine J_aload_n dX7_forms_142 rfl ?_
                  refine J_get jf_X7_61 dX7_forms_143 hOgs91a0 hFgs91a0_18 ?_
                  refine J_iload_n dX7_forms_146 rfl ?_
                  refine Jz_iald (r := ((-2147483648), 2147483647)) he67 dX7_forms_147 hAF27n91 rfl hvF27n91 (by omega) (by omega) (fun y147 hf147 hl147 hh147 => ?_)
                  dsimp only at hl147 hh147
                  clear hl147 hh147
                  exact J_ret (r := some (.int _)) dX7_forms_148 ⟨rfl, _, rfl, rfl⟩ (⟨⟨hW, he, ⟨_, rfl, (j_rng _).1, (j_rng _).2, (Or.inl ⟨by omega, Or.inr ⟨hns, by rw [← hf147]; exact hfin⟩⟩)⟩⟩, hct, ⟨fd, rd, F27n91, RD, f1.mono he.1, f2.mono he.1, hAF27n91, d2, jfd_set hix8 (by omega) w1 (by rw [hig]; exact hfin) hoth, w2⟩, hkp⟩)
                · refine J_aload_n dX7_forms_98 rfl ?_
                  refine J_iload_n dX7_forms_99 rfl ?_
                  refine J_iload_n dX7_forms_100 rfl ?_
                  refine J_iload dX7_forms_101 rfl ?_
                  obtain ⟨w103p22, hF103p22, y103p22, rfl, hl103p22, hh103p22⟩ := hKgs91a0.2 22 (.inl ((-2147483648), 2147483647)) rfl
                  dsimp only at hl103p22 hh103p22
                  obtain ⟨n103q17, f103q17, hA103q17, hN103q17, hM103q17, hv103q17⟩ := WT_arrI (r := (-2147483648, 2147483647)) hW id rfl hb23p4
                  obtain rfl := hM103q17 120 rfl
                  clear hN103q17 hM103q17
                  refine Jw_callV3 (q9 := (RX7, TX7, 34)) moX7_rowOf jw_ml_X7_198 jw_im_X7_rowOf jw_se_X7_rowOf ha0 rfl rfl dX7_forms_103 (w_X7_rowOf_z (d - 1) _ a0 x1 x2 i5n91 y103p22 b23p4 f103q17 (by omega) hW  ha0 ⟨_, hOgs91a0, hF103p22⟩ ⟨_, hOgs91a0, hFgs91a0_4⟩ hA103q17 (by omega) (by omega) (by omega) (by omega) (by omega)) (by omega) (Nat.zero_le _) (Nat.zero_le _) (Nat.le_of_ble_eq_true rfl) (fun r103 V103 h103 => ?_)
                  obtain ⟨h103, hX103_0, hX103_1, ⟨fv103_0, hfv103_0, hfp103_0⟩, ⟨fv103_1, hfv103_1, hfp103_1⟩⟩ := h103
                  obtain ⟨hW, hx103, hr103⟩ := h103
                  have he := he.trans (hx103.sub (jsub_of rfl))
                  have hkp := hkp.trans hX103_1
                  have hct := hct.keep hx103 (jdis_of rfl)
                  have ha0 := ha0.mono hx103.1
                  have hbm1 := hbm1.mono hx103.1
                  have hbm2 := hbm2.mono hx103.1
                  have hbm3 := hbm3.mono hx103.1
                  have hbm4 := hbm4.mono hx103.1
                  have hbm5 := hbm5.mono hx103.1
                  have hbm6 := hbm6.mono hx103.1
                  have hbfd := hbfd.mono hx103.1
                  have hbrd := hbrd.mono hx103.1
                  have hb23p4 := hb23p4.mono hx103.1
                  have hb23p6 := hb23p6.mono hx103.1
                  have hb23p7 := hb23p7.mono hx103.1
                  have hb23p8 := hb23p8.mono hx103.1
                  have hb23p17 := hb23p17.mono hx103.1
                  obtain ⟨fs103a0, hOfs103a0, hRfs103a0⟩ := hx103.1.keep hOgs91a0
                  have hKfs103a0 : jokO _ (jFs 5) fs103a0 := hW _ _ id hOfs103a0
                  have hFfs103a0_11 := hRfs103a0 _ _ hFgs91a0_11
                  have hFfs103a0_12 := hRfs103a0 _ _ hFgs91a0_12
                  have hFfs103a0_13 := hRfs103a0 _ _ hFgs91a0_13
                  have hFfs103a0_14 := hRfs103a0 _ _ hFgs91a0_14
                  have hFfs103a0_15 := hRfs103a0 _ _ hFgs91a0_15
                  have hFfs103a0_16 := hRfs103a0 _ _ hFgs91a0_16
                  have hFfs103a0_18 := hRfs103a0 _ _ hFgs91a0_18
                  have hFfs103a0_19 := hRfs103a0 _ _ hFgs91a0_19
                  have hFfs103a0_4 := hRfs103a0 _ _ hFgs91a0_4
                  have hFfs103a0_6 := hRfs103a0 _ _ hFgs91a0_6
                  have hFfs103a0_7 := hRfs103a0 _ _ hFgs91a0_7
                  have hFfs103a0_8 := hRfs103a0 _ _ hFgs91a0_8
                  have hFfs103a0_17 := hRfs103a0 _ _ hFgs91a0_17
                  have hAF27n91 := hx103.2 _ _ hAF27n91 (jnot_of rfl)
                  have d2 := hx103.2 _ _ d2 (jnot_of rfl)
                  cases hr103
                  have hFv103_0 := hfv103_0.get hOfs103a0
                  have hsb103_0 : x2 = fv103_0 := (jI_inj.mp hfp103_0).symm
                  subst hsb103_0
                  have hFv103_1 := hfv103_1.get hOfs103a0
                  have hsb103_1 : y103p22 = fv103_1 := (jI_inj.mp hfp103_1).symm
                  subst hsb103_1
                  obtain ⟨R103, hR103, hRe103⟩ := hX103_0
                  obtain ⟨hN_R103, hv_R103⟩ := WT_rngI (r := ((-2147483648), 2147483647)) hW id rfl hR103
                  clear hN_R103
                  refine J_aload_n dX7_forms_106 rfl ?_
                  refine J_get jf_X7_61 dX7_forms_107 hOfs103a0 hFfs103a0_18 ?_
                  refine J_iload_n dX7_forms_110 rfl ?_
                  refine J_dup2 dX7_forms_111 rfl rfl ?_
                  refine Jz_iald (r := ((-2147483648), 2147483647)) he67 dX7_forms_112 hAF27n91 rfl hvF27n91 (by omega) (by omega) (fun y112 hf112 hl112 hh112 => ?_)
                  dsimp only at hl112 hh112
                  clear hl112 hh112
                  have e112 : (F27n91 (8 * x1.toInt + x2.toInt).toNat).toInt = y112.toInt := by rw [hf112]
                  have hb112 : 0 ≤ y112.toInt ∧ y112.toInt ≤ 279936 := by have q := jsu_one (f := (jffo x1.toInt (jdir x1.toInt).toNat x2.toInt.toNat)) (c := i5n91.toInt.toNat) (fun d _ => jffo_le _ _ _ _); omega
                  refine J_aload_n dX7_forms_113 rfl ?_
                  refine J_iload_n dX7_forms_114 rfl ?_
                  obtain ⟨n115q18, f115q18, hA115q18, hN115q18, hM115q18, hv115q18⟩ := WT_arrI (r := (-2147483648, 2147483647)) hW id rfl hb23p6
                  obtain rfl := hM115q18 121 rfl
                  clear hN115q18 hM115q18
                  obtain ⟨n115q19, f115q19, hA115q19, hN115q19, hM115q19, hv115q19⟩ := WT_arrI (r := (-2147483648, 2147483647)) hW id rfl hb23p7
                  obtain rfl := hM115q19 121 rfl
                  clear hN115q19 hM115q19
                  obtain ⟨n115q20, f115q20, hA115q20, hN115q20, hM115q20, hv115q20⟩ := WT_arrI (r := (-2147483648, 2147483647)) hW id rfl hb23p8
                  obtain rfl := hM115q20 121 rfl
                  clear hN115q20 hM115q20
                  refine Jw_callV1 (q9 := (RX7, TX7, 34)) moX7_goes jw_ml_X7_122 jw_im_X7_goes jw_se_X7_goes ha0 rfl rfl dX7_forms_115 (w_X7_goes_z (d - 1) _ a0 x1 x2 b23p4 b23p6 b23p7 b23p8 R103 f115q18 f115q19 f115q20 (by omega) hW  ha0 ⟨_, hOfs103a0, hFv103_0⟩ ⟨_, hOfs103a0, hFfs103a0_4⟩ ⟨_, hOfs103a0, hFfs103a0_6⟩ ⟨_, hOfs103a0, hFfs103a0_7⟩ ⟨_, hOfs103a0, hFfs103a0_8⟩ hR103 hA115q18 hA115q19 hA115q20 (by omega) (by omega)) (by omega) (Nat.zero_le _) (Nat.zero_le _) (Nat.le_of_ble_eq_true rfl) (fun r115 V115 h115 => ?_)
                  obtain ⟨h115, hX115_0⟩ := h115
                  obtain ⟨hW, hx115, hr115⟩ := h115
                  have he := he.trans (hx115.sub (jsub_of rfl))
                  have hkp := hkp.trans (jkc.of hx115 (jnot_of rfl))
                  have hct := hct.keep hx115 (jdis_of rfl)
                  have ha0 := ha0.mono hx115.1
                  have hbm1 := hbm1.mono hx115.1
                  have hbm2 := hbm2.mono hx115.1
                  have hbm3 := hbm3.mono hx115.1
                  have hbm4 := hbm4.mono hx115.1
                  have hbm5 := hbm5.mono hx115.1
                  have hbm6 := hbm6.mono hx115.1
                  have hbfd := hbfd.mono hx115.1
                  have hbrd := hbrd.mono hx115.1
                  have hb23p4 := hb23p4.mono hx115.1
                  have hb23p6 := hb23p6.mono hx115.1
                  have hb23p7 := hb23p7.mono hx115.1
                  have hb23p8 := hb23p8.mono hx115.1
                  have hb23p17 := hb23p17.mono hx115.1
                  have hOfs103a0 := hx115.2 _ _ hOfs103a0 (jnot_of rfl)
                  have hKfs103a0 := hKfs103a0.mono hx115.1
                  have hAF27n91 := hx115.2 _ _ hAF27n91 (jnot_of rfl)
                  have d2 := hx115.2 _ _ d2 (jnot_of rfl)
                  have hR103 := hx115.2 _ _ hR103 (jnot_of rfl)
                  obtain ⟨y115, rfl, hl115, hh115, hP115_0⟩ := hr115
                  obtain ⟨X115, Y115, Z115, hXa115, hYa115, hZa115, -⟩ := hX115_0
                  obtain ⟨hN_X115, hv_X115⟩ := WT_rngI (r := ((-2147483648), 2147483647)) hW id rfl hXa115
                  clear hN_X115
                  obtain ⟨hN_Y115, hv_Y115⟩ := WT_rngI (r := ((-2147483648), 2147483647)) hW id rfl hYa115
                  clear hN_Y115
                  obtain ⟨hN_Z115, hv_Z115⟩ := WT_rngI (r := ((-2147483648), 2147483647)) hW id rfl hZa115
                  clear hN_Z115
                  refine Jz_if_eq (tgt := 133) jEq.rf dX7_forms_118 (by decide) (fun c118 => ?_) (fun c118 => ?_)
                  · have hja : ¬ jav x1.toInt (jdg9 (jdir x1.toInt).toNat x2.toInt.toNat i5n91.toInt.toNat) x2.toInt.toNat := fun z => hP115_0.elim (fun q => absurd q.1 (by omega)) (fun q => q.2 (z.congr (fun q hq => (hRe103 q hq).symm)))
                    refine Jz_iconst 0 dX7_forms_133 (by decide) (fun y133 he133 => ?_)
                    refine Jz_iadd jEq.rf he133 dX7_forms_134 (by omega) (by omega) (fun y134 he134 => ?_)
                    refine Jz_iast (r := ((-2147483648), 2147483647)) he67 he134 hW id dX7_forms_135 hAF27n91 rfl rfl (by omega) (by omega) (by omega) (by omega) (fun V135 G135 hW hx135 hA135 hp135 ho135 => ?_)
                    obtain ⟨hN135, hv135⟩ := WT_rngI (r := ((-2147483648), 2147483647)) hW id rfl hA135
                    clear hN135
                    have he := he.trans (hx135.sub (jsub_of rfl))
                    have hkp := hkp.trans (jkc.of hx135 (jnot_of rfl))
                    have hct := hct.keep hx135 (jdis_of rfl)
                    have ha0 := ha0.mono hx135.1
                    have hbm1 := hbm1.mono hx135.1
                    have hbm2 := hbm2.mono hx135.1
                    have hbm3 := hbm3.mono hx135.1
                    have hbm4 := hbm4.mono hx135.1
                    have hbm5 := hbm5.mono hx135.1
                    have hbm6 := hbm6.mono hx135.1
                    have hbfd := hbfd.mono hx135.1
                    have hbrd := hbrd.mono hx135.1
                    have hb23p4 := hb23p4.mono hx135.1
                    have hb23p6 := hb23p6.mono hx135.1
                    have hb23p7 := hb23p7.mono hx135.1
                    have hb23p8 := hb23p8.mono hx135.1
                    have hb23p17 := hb23p17.mono hx135.1
                    have hOfs103a0 := hx135.2 _ _ hOfs103a0 (jnot_of rfl)
                    have hKfs103a0 := hKfs103a0.mono hx135.1
                    have d2 := hx135.2 _ _ d2 (jnot_of rfl)
                    have hR103 := hx135.2 _ _ hR103 (jnot_of rfl)
                    have hXa115 := hx135.2 _ _ hXa115 (jnot_of rfl)
                    have hYa115 := hx135.2 _ _ hYa115 (jnot_of rfl)
                    have hZa115 := hx135.2 _ _ hZa115 (jnot_of rfl)
                    refine Jz_iinc 1 dX7_forms_136 rfl rfl (by decide) jEq.rf (by decide) (by omega) (by omega) (fun y136 he136 => ?_)
                    refine J_goto (tgt := 91) dX7_forms_139 (by decide) ?_
                    refine J.mask [true, true, true, true, true, true] ?_
                    exact ih91 _ y136 fs103a0 G135 hW he ha0 hbm1 hbm2 hbm3 hbm4 hbm5 hbm6 hbfd hbrd hb23p4 hb23p6 hb23p7 hb23p8 hb23p17 hkp hct hOfs103a0 hFfs103a0_11 hFfs103a0_12 hFfs103a0_13 hFfs103a0_14 hFfs103a0_15 hFfs103a0_16 hFfs103a0_18 hFfs103a0_19 hFfs103a0_4 hFfs103a0_6 hFfs103a0_7 hFfs103a0_8 hFfs103a0_17 hA135 d2 (by (try simp only [he136.eq, true_and, and_true]) <;> omega) (by rw [he136.eq, show (i5n91.toInt + 1).toNat = i5n91.toInt.toNat + 1 by omega, hp135, he134.eq, ← e112, hsum, jsu_skip (f := (jffo x1.toInt (jdir x1.toInt).toNat x2.toInt.toNat)) (c := i5n91.toInt.toNat) (show (jffo x1.toInt (jdir x1.toInt).toNat x2.toInt.toNat) i5n91.toInt.toNat = 0 from (jone_no (fun z => hja z.1))), Int.add_zero]) (fun i hi => (ho135 i hi).trans (hoth i hi)) (by (try simp only [he136.eq, true_and, and_true]) <;> omega)
                  · have hja : jav x1.toInt (jdg9 (jdir x1.toInt).toNat x2.toInt.toNat i5n91.toInt.toNat) x2.toInt.toNat := (hP115_0.elim (fun q => q.2) (fun q => absurd q.1 (by omega))).congr (fun q hq => hRe103 q hq)
                    refine J_aload_n dX7_forms_121 rfl ?_
                    refine J_iload_n dX7_forms_122 rfl ?_
                    obtain ⟨w123p9, hF123p9, b123p9, rfl, hb123p9⟩ := hKfs103a0.2 9 (.inr (some (.inl 21))) rfl
                    obtain ⟨n123q21, f123q21, hA123q21, hN123q21, hM123q21, hv123q21⟩ := WT_arrI (r := (-2147483648, 2147483647)) hW id rfl hb123p9
                    obtain rfl := hM123q21 60 rfl
                    clear hN123q21 hM123q21
                    refine Jw_callV1 (q9 := (RX7, TX7, 34)) moX7_isForm jw_ml_X7_202 jw_im_X7_isForm jw_se_X7_isForm ha0 rfl rfl dX7_forms_123 (w_X7_isForm_z (d - 1) _ a0 x1 x2 b23p4 b123p9 R103 f123q21 (by omega) hW  ha0 ⟨_, hOfs103a0, hFv103_0⟩ ⟨_, hOfs103a0, hFfs103a0_4⟩ ⟨_, hOfs103a0, hF123p9⟩ hR103 hA123q21 (by omega) (by omega) (by omega) (fun j9 hj9 => by rw [hRe103 j9 (by omega)]; have q := jdg9_b (D := (jdir x1.toInt).toNat) (n := x2.toInt.toNat) (v := i5n91.toInt.toNat) (i := j9) (by omega); omega)) (by omega) (Nat.zero_le _) (Nat.zero_le _) (Nat.le_of_ble_eq_true rfl) (fun r123 V123 h123 => ?_)
                    obtain ⟨hW, hx123, hr123⟩ := h123
                    have he := he.trans (hx123.sub (jsub_of rfl))
                    have hkp := hkp.trans (jkc.of hx123 (jnot_of rfl))
                    have hct := hct.keep hx123 (jdis_of rfl)
                    have ha0 := ha0.mono hx123.1
                    have hbm1 := hbm1.mono hx123.1
                    have hbm2 := hbm2.mono hx123.1
                    have hbm3 := hbm3.mono hx123.1
                    have hbm4 := hbm4.mono hx123.1
                    have hbm5 := hbm5.mono hx123.1
                    have hbm6 := hbm6.mono hx123.1
                    have hbfd := hbfd.mono hx123.1
                    have hbrd := hbrd.mono hx123.1
                    have hb23p4 := hb23p4.mono hx123.1
                    have hb23p6 := hb23p6.mono hx123.1
                    have hb23p7 := hb23p7.mono hx123.1
                    have hb23p8 := hb23p8.mono hx123.1
                    have hb23p17 := hb23p17.mono hx123.1
                    have hb123p9 := hb123p9.mono hx123.1
                    have hOfs103a0 := hx123.2 _ _ hOfs103a0 (jnot_of rfl)
                    have hKfs103a0 := hKfs103a0.mono hx123.1
                    have hAF27n91 := hx123.2 _ _ hAF27n91 (jnot_of rfl)
                    have d2 := hx123.2 _ _ d2 (jnot_of rfl)
                    have hR103 := hx123.2 _ _ hR103 (jnot_of rfl)
                    have hXa115 := hx123.2 _ _ hXa115 (jnot_of rfl)
                    have hYa115 := hx123.2 _ _ hYa115 (jnot_of rfl)
                    have hZa115 := hx123.2 _ _ hZa115 (jnot_of rfl)
                    obtain ⟨y123, rfl, hl123, hh123, hP123_0⟩ := hr123
                    refine Jz_if_eq (tgt := 133) jEq.rf dX7_forms_126 (by decide) (fun c126 => ?_) (fun c126 => ?_)
                    · have hjo : ¬ jow x1.toInt (jdg9 (jdir x1.toInt).toNat x2.toInt.toNat i5n91.toInt.toNat) x2.toInt.toNat := fun z => hP123_0.elim (fun q => absurd q.1 (by omega)) (fun q => q.2 ((jow_congr (fun q hq => hRe103 q hq)).mpr z))
                      refine Jz_iconst 0 dX7_forms_133 (by decide) (fun y133 he133 => ?_)
                      refine Jz_iadd jEq.rf he133 dX7_forms_134 (by omega) (by omega) (fun y134 he134 => ?_)
                      refine Jz_iast (r := ((-2147483648), 2147483647)) he67 he134 hW id dX7_forms_135 hAF27n91 rfl rfl (by omega) (by omega) (by omega) (by omega) (fun V135 G135 hW hx135 hA135 hp135 ho135 => ?_)
                      obtain ⟨hN135, hv135⟩ := WT_rngI (r := ((-2147483648), 2147483647)) hW id rfl hA135
                      clear hN135
                      have he := he.trans (hx135.sub (jsub_of rfl))
                      have hkp := hkp.trans (jkc.of hx135 (jnot_of rfl))
                      have hct := hct.keep hx135 (jdis_of rfl)
                      have ha0 := ha0.mono hx135.1
                      have hbm1 := hbm1.mono hx135.1
                      have hbm2 := hbm2.mono hx135.1
                      have hbm3 := hbm3.mono hx135.1
                      have hbm4 := hbm4.mono hx135.1
                      have hbm5 := hbm5.mono hx135.1
                      have hbm6 := hbm6.mono hx135.1
                      have hbfd := hbfd.mono hx135.1
                      have hbrd := hbrd.mono hx135.1
                      have hb23p4 := hb23p4.mono hx135.1
                      have hb23p6 := hb23p6.mono hx135.1
                      have hb23p7 := hb23p7.mono hx135.1
                      have hb23p8 := hb23p8.mono hx135.1
                      have hb23p17 := hb23p17.mono hx135.1
                      have hb123p9 := hb123p9.mono hx135.1
                      have hOfs103a0 := hx135.2 _ _ hOfs103a0 (jnot_of rfl)
                      have hKfs103a0 := hKfs103a0.mono hx135.1
                      have d2 := hx135.2 _ _ d2 (jnot_of rfl)
                      have hR103 := hx135.2 _ _ hR103 (jnot_of rfl)
                      have hXa115 := hx135.2 _ _ hXa115 (jnot_of rfl)
                      have hYa115 := hx135.2 _ _ hYa115 (jnot_of rfl)
                      have hZa115 := hx135.2 _ _ hZa115 (jnot_of rfl)
                      refine Jz_iinc 1 dX7_forms_136 rfl rfl (by decide) jEq.rf (by decide) (by omega) (by omega) (fun y136 he136 => ?_)
                      refine J_goto (tgt := 91) dX7_forms_139 (by decide) ?_
                      refine J.mask [true, true, true, true, true, true] ?_
                      exact ih91 _ y136 fs103a0 G135 hW he ha0 hbm1 hbm2 hbm3 hbm4 hbm5 hbm6 hbfd hbrd hb23p4 hb23p6 hb23p7 hb23p8 hb23p17 hkp hct hOfs103a0 hFfs103a0_11 hFfs103a0_12 hFfs103a0_13 hFfs103a0_14 hFfs103a0_15 hFfs103a0_16 hFfs103a0_18 hFfs103a0_19 hFfs103a0_4 hFfs103a0_6 hFfs103a0_7 hFfs103a0_8 hFfs103a0_17 hA135 d2 (by (try simp only [he136.eq, true_and, and_true]) <;> omega) (by rw [he136.eq, show (i5n91.toInt + 1).toNat = i5n91.toInt.toNat + 1 by omega, hp135, he134.eq, ← e112, hsum, jsu_skip (f := (jffo x1.toInt (jdir x1.toInt).toNat x2.toInt.toNat)) (c := i5n91.toInt.toNat) (show (jffo x1.toInt (jdir x1.toInt).toNat x2.toInt.toNat) i5n91.toInt.toNat = 0 from (jone_no (fun z => hjo z.2))), Int.add_zero]) (fun i hi => (ho135 i hi).trans (hoth i hi)) (by (try simp only [he136.eq, true_and, and_true]) <;> omega)
                    · have hjo : jow x1.toInt (jdg9 (jdir x1.toInt).toNat x2.toInt.toNat i5n91.toInt.toNat) x2.toInt.toNat := (jow_congr (fun q hq => hRe103 q hq)).mp (hP123_0.elim (fun q => q.2) (fun q => absurd q.1 (by omega)))
                      refine Jz_iconst 1 dX7_forms_129 (by decide) (fun y129 he129 => ?_)
                      refine J_goto (tgt := 134) dX7_forms_130 (by decide) ?_
                      refine Jz_iadd jEq.rf he129 dX7_forms_134 (by omega) (by omega) (fun y134 he134 => ?_)
                      refine Jz_iast (r := ((-2147483648), 2147483647)) he67 he134 hW id dX7_forms_135 hAF27n91 rfl rfl (by omega) (by omega) (by omega) (by omega) (fun V135 G135 hW hx135 hA135 hp135 ho135 => ?_)
                      obtain ⟨hN135, hv135⟩ := WT_rngI (r := ((-2147483648), 2147483647)) hW id rfl hA135
                      clear hN135
                      have he := he.trans (hx135.sub (jsub_of rfl))
                      have hkp := hkp.trans (jkc.of hx135 (jnot_of rfl))
                      have hct := hct.keep hx135 (jdis_of rfl)
                      have ha0 := ha0.mono hx135.1
                      have hbm1 := hbm1.mono hx135.1
                      have hbm2 := hbm2.mono hx135.1
                      have hbm3 := hbm3.mono hx135.1
                      have hbm4 := hbm4.mono hx135.1
                      have hbm5 := hbm5.mono hx135.1
                      have hbm6 := hbm6.mono hx135.1
                      have hbfd := hbfd.mono hx135.1
                      have hbrd := hbrd.mono hx135.1
                      have hb23p4 := hb23p4.mono hx135.1
                      have hb23p6 := hb23p6.mono hx135.1
                      have hb23p7 := hb23p7.mono hx135.1
                      have hb23p8 := hb23p8.mono hx135.1
                      have hb23p17 := hb23p17.mono hx135.1
                      have hb123p9 := hb123p9.mono hx135.1
                      have hOfs103a0 := hx135.2 _ _ hOfs103a0 (jnot_of rfl)
                      have hKfs103a0 := hKfs103a0.mono hx135.1
                      have d2 := hx135.2 _ _ d2 (jnot_of rfl)
                      have hR103 := hx135.2 _ _ hR103 (jnot_of rfl)
                      have hXa115 := hx135.2 _ _ hXa115 (jnot_of rfl)
                      have hYa115 := hx135.2 _ _ hYa115 (jnot_of rfl)
                      have hZa115 := hx135.2 _ _ hZa115 (jnot_of rfl)
                      refine Jz_iinc 1 dX7_forms_136 rfl rfl (by decide) jEq.rf (by decide) (by omega) (by omega) (fun y136 he136 => ?_)
                      refine J_goto (tgt := 91) dX7_forms_139 (by decide) ?_
                      refine J.mask [true, true, true, true, true, true] ?_
                      exact ih91 _ y136 fs103a0 G135 hW he ha0 hbm1 hbm2 hbm3 hbm4 hbm5 hbm6 hbfd hbrd hb23p4 hb23p6 hb23p7 hb23p8 hb23p17 hkp hct hOfs103a0 hFfs103a0_11 hFfs103a0_12 hFfs103a0_13 hFfs103a0_14 hFfs103a0_15 hFfs103a0_16 hFfs103a0_18 hFfs103a0_19 hFfs103a0_4 hFfs103a0_6 hFfs103a0_7 hFfs103a0_8 hFfs103a0_17 hA135 d2 (by (try simp only [he136.eq, true_and, and_true]) <;> omega) (by rw [he136.eq, show (i5n91.toInt + 1).toNat = i5n91.toInt.toNat + 1 by omega, hp135, he134.eq, ← e112, hsum, jsu_inc (f := (jffo x1.toInt (jdir x1.toInt).toNat x2.toInt.toNat)) (c := i5n91.toInt.toNat) (show (jffo x1.toInt (jdir x1.toInt).toNat x2.toInt.toNat) i5n91.toInt.toNat = 1 from (jone_yes ⟨hja, hjo⟩))]) (fun i hi => (ho135 i hi).trans (hoth i hi)) (by (try simp only [he136.eq, true_and, and_true]) <;> omega)
            refine J.mask [true, true, true, true, true, true] ?_
            exact L91 _ _ y88 fs23a0 FD hW he ha0 hbm1 hbm2 hbm3 hbm4 hbm5 hbm6 hbfd hbrd hb23p4 hb23p6 hb23p7 hb23p8 hb23p17 hkp hct hOfs23a0 hFfs23a0_11 hFfs23a0_12 hFfs23a0_13 hFfs23a0_14 hFfs23a0_15 hFfs23a0_16 hFfs23a0_18 hFfs23a0_19 hFfs23a0_4 hFfs23a0_6 hFfs23a0_7 hFfs23a0_8 hFfs23a0_17 d1 d2 (by (try simp only [he88.eq, true_and, and_true]) <;> omega) (by rw [he88.eq, e74]; (show y74.toInt = ((0 : Nat) : Int)); omega) (fun _ _ => rfl) (Nat.lt_succ_self _)
        · refine Jz_bipush (-5) dX7_forms_59 (by decide) (fun y59 he59 => ?_)
          exact J_ret (r := some (.int _)) dX7_forms_61 ⟨rfl, _, rfl, rfl⟩ (⟨⟨hW, he, ⟨_, rfl, (j_rng _).1, (j_rng _).2, (Or.inl ⟨by omega, Or.inl ⟨hmk.co.elim (fun q => Or.inr (by have w := q.2.2.1; rw [e36] at w; omega)) (fun q => Or.inl q.1), he59.eq⟩⟩)⟩⟩, hct, ⟨fd, rd, FD, RD, f1.mono he.1, f2.mono he.1, d1, d2, w1, w2⟩, hkp⟩)
    · refine Jz_bipush (-2) dX7_forms_17 (by decide) (fun y17 he17 => ?_)
      exact J_ret (r := some (.int _)) dX7_forms_19 ⟨rfl, _, rfl, rfl⟩ (⟨⟨hW, he, ⟨_, rfl, (j_rng _).1, (j_rng _).2, (Or.inr ⟨(by omega), he17.eq⟩)⟩⟩, hct, hrf, hkp⟩)
