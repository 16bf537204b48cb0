set_option maxRecDepth 100000 in
set_option maxHeartbeats 8000000 in
theorem w_X7_forms_k {tS : jTS} (d : Nat) (V0 : jH) (a0 : Nat) (x1 : Int32) (x2 : Int32) (hd : 5 ≤ d) (hW : WT V0) (ha0 : jis V0 (.inr 5) a0) (hct : jRM V0 a0) : jTot tS mX7_forms d [.ref a0, .int x1, .int x2] V0 0 0 (fun r V => (jPost [.inr 5, .inl 40, .inl 23, .inl 17, .inl 18, .inl 19, .inl 20, .inl 41, .inl 26, .inl 46, .inl 24, .inl 25, .inl 21, .inl 27] V0 (fun r _ => ∃ y : Int32, r = some (.int y) ∧ ((-2147483648) ≤ y.toInt) ∧ (y.toInt ≤ 2147483647))) r V ∧ jRM V a0 ∧ jkc 5 [0, 23, 24] V0 V) := by
  refine jTot.of_J [some (.ref a0), some (.int x1), some (.int x2), none, none, none] moX7_forms (Nat.le_of_ble_eq_true rfl) rfl ?_
  have hrx1 := j_rng x1
  have hrx2 := j_rng x2
  have he : jeff [.inr 5, .inl 40, .inl 23, .inl 17, .inl 18, .inl 19, .inl 20, .inl 41, .inl 26, .inl 46, .inl 24, .inl 25, .inl 21, .inl 27] V0 V0 := jeff.refl _ _
  have hkp : jkc 5 [0, 23, 24] V0 V0 := jkc.rf
  obtain ⟨kn, co, sq, rg, bg, se, KN, CO, SQ, RG, BG, SE, ⟨m1, m2, m3, m4, m5, m6⟩, ⟨k1, k2, k3, k4, k5, k6⟩, hsn0, hmo⟩ := id hct
  obtain ⟨ms, hM, g11⟩ := id m1
  have g12 := m2.get hM
  have g13 := m3.get hM
  have g14 := m4.get hM
  have g15 := m5.get hM
  have g16 := m6.get hM
  have hKm : jokO V0 (jFs 5) ms := hW _ _ id hM
  have hbm1 : jis V0 (.inl 40) kn := ⟨_, k1, rfl⟩
  have hbm2 : jis V0 (.inl 23) co := ⟨_, k2, rfl⟩
  have hbm3 : jis V0 (.inl 46) sq := ⟨_, k3, rfl⟩
  have hbm4 : jis V0 (.inl 24) rg := ⟨_, k4, rfl⟩
  have hbm5 : jis V0 (.inl 25) bg := ⟨_, k5, rfl⟩
  have hbm6 : jis V0 (.inl 41) se := ⟨_, k6, rfl⟩
  refine J_iload_n dX7_forms_0 rfl ?_
  refine J_callS1 moX7_isGround jw_ml_X7_184 jw_st_X7_isGround dX7_forms_1 (w_X7_isGround (d - 1) _ x1 (by omega)   ) (by omega) (Nat.zero_le _) (Nat.zero_le _) (Nat.le_of_ble_eq_true rfl) (fun r1 V1 h1 => ?_)
  obtain ⟨⟨y1, rfl, hl1, hh1, hI1_0⟩, hE1⟩ := h1
  have hE1 := hE1.symm
  subst hE1
  refine Jz_if_eq (tgt := 17) jEq.rf dX7_forms_4 (by decide) (fun c4 => ?_) (fun c4 => ?_)
  · refine Jz_bipush (-2) dX7_forms_17 (by decide) (fun y17 he17 => ?_)
    exact J_ret (r := some (.int _)) dX7_forms_19 ⟨rfl, _, rfl, rfl⟩ (⟨⟨hW, he, ⟨_, rfl, (j_rng _).1, (j_rng _).2⟩⟩, hct, hkp⟩)
  · have q4_0 := hI1_0.of (by omega)
    refine J_iload_n dX7_forms_7 rfl ?_
    refine Jz_iconst 0 dX7_forms_8 (by decide) (fun y8 he8 => ?_)
    refine Jz_bipush 7 dX7_forms_9 (by decide) (fun y9 he9 => ?_)
    refine J_callS3 moX7_in jw_ml_X7_105 jw_st_X7_in dX7_forms_11 (w_X7_in (d - 1) _ x2 y8 y9 (by omega)   ) (by omega) (Nat.zero_le _) (Nat.zero_le _) (Nat.le_of_ble_eq_true rfl) (fun r11 V11 h11 => ?_)
    obtain ⟨⟨y11, rfl, hl11, hh11, hI11_0, hI11_1⟩, hE11⟩ := h11
    have hE11 := hE11.symm
    subst hE11
    refine Jz_if_ne (tgt := 20) jEq.rf dX7_forms_14 (by decide) (fun c14 => ?_) (fun c14 => ?_)
    · have q14_0 := hI11_0.of (by omega)
      try simp only [he8.eq, he9.eq] at q14_0
      refine J_aload_n dX7_forms_20 rfl ?_
      refine J_iload_n dX7_forms_21 rfl ?_
      refine J_iload_n dX7_forms_22 rfl ?_
      have hig : ((x1.toInt.toNat : Nat) : Int) = x1.toInt := by omega
      have hix : 21 * x1.toInt.toNat + x2.toInt.toNat = (21 * x1.toInt + x2.toInt).toNat := by omega
      have hmo0 : jmo x1.toInt x2.toInt.toNat KN CO SQ RG BG (21 * x1.toInt + x2.toInt).toNat := by
          have q := hmo x1.toInt.toNat x2.toInt.toNat (by omega) (by omega)
          rw [hig, hix] at q
          exact q
      obtain ⟨w23p4, hF23p4, b23p4, rfl, hb23p4⟩ := hKm.2 4 (.inr (some (.inl 17))) rfl
      obtain ⟨w23p6, hF23p6, b23p6, rfl, hb23p6⟩ := hKm.2 6 (.inr (some (.inl 18))) rfl
      obtain ⟨w23p7, hF23p7, b23p7, rfl, hb23p7⟩ := hKm.2 7 (.inr (some (.inl 19))) rfl
      obtain ⟨w23p8, hF23p8, b23p8, rfl, hb23p8⟩ := hKm.2 8 (.inr (some (.inl 20))) rfl
      obtain ⟨w23p17, hF23p17, b23p17, rfl, hb23p17⟩ := hKm.2 17 (.inr (some (.inl 26))) rfl
      obtain ⟨n23q17, f23q17, hA23q17, hN23q17, hM23q17, hv23q17⟩ := WT_arrI (r := (-2147483648, 2147483647)) hW id rfl hb23p4
      obtain rfl := hM23q17 120 rfl
      clear hN23q17 hM23q17
      obtain ⟨n23q18, f23q18, hA23q18, hN23q18, hM23q18, hv23q18⟩ := WT_arrI (r := (-2147483648, 2147483647)) hW id rfl hb23p6
      obtain rfl := hM23q18 121 rfl
      clear hN23q18 hM23q18
      obtain ⟨n23q19, f23q19, hA23q19, hN23q19, hM23q19, hv23q19⟩ := WT_arrI (r := (-2147483648, 2147483647)) hW id rfl hb23p7
      obtain rfl := hM23q19 121 rfl
      clear hN23q19 hM23q19
      obtain ⟨n23q20, f23q20, hA23q20, hN23q20, hM23q20, hv23q20⟩ := WT_arrI (r := (-2147483648, 2147483647)) hW id rfl hb23p8
      obtain rfl := hM23q20 121 rfl
      clear hN23q20 hM23q20
      obtain ⟨n23q26, f23q26, hA23q26, hN23q26, hM23q26, hv23q26⟩ := WT_arrI (r := (-2147483648, 2147483647)) hW id rfl hb23p17
      obtain rfl := hM23q26 22 rfl
      clear hN23q26 hM23q26
      refine Jw_callV2 (q9 := (RX7, TX7, 34)) moX7_counts jw_ml_X7_187 jw_im_X7_counts jw_se_X7_counts ha0 rfl rfl dX7_forms_23 (w_X7_counts_z (d - 1) _ a0 x1 x2 b23p4 b23p6 b23p7 b23p8 kn co sq rg bg se b23p17 f23q17 f23q18 f23q19 f23q20 KN CO SQ RG BG SE f23q26 (by omega) hW  ha0 ⟨_, hM, hF23p4⟩ ⟨_, hM, hF23p6⟩ ⟨_, hM, hF23p7⟩ ⟨_, hM, hF23p8⟩ ⟨_, hM, g11⟩ ⟨_, hM, g12⟩ ⟨_, hM, g13⟩ ⟨_, hM, g14⟩ ⟨_, hM, g15⟩ ⟨_, hM, g16⟩ ⟨_, hM, hF23p17⟩ hA23q17 hA23q18 hA23q19 hA23q20 k1 k2 k3 k4 k5 k6 hA23q26 (by omega) (by omega) (by omega) (by omega) hsn0 hmo0) (by omega) (Nat.zero_le _) (Nat.zero_le _) (Nat.le_of_ble_eq_true rfl) (fun r23 V23 h23 => ?_)
      obtain ⟨h23, hX23_0, hX23_1⟩ := h23
      obtain ⟨hW, hx23, hr23⟩ := h23
      have he := he.trans (hx23.sub (jsub_of rfl))
      have hkp := hkp.trans hX23_1
      have ha0 := ha0.mono hx23.1
      have hbm1 := hbm1.mono hx23.1
      have hbm2 := hbm2.mono hx23.1
      have hbm3 := hbm3.mono hx23.1
      have hbm4 := hbm4.mono hx23.1
      have hbm5 := hbm5.mono hx23.1
      have hbm6 := hbm6.mono hx23.1
      have hb23p4 := hb23p4.mono hx23.1
      have hb23p6 := hb23p6.mono hx23.1
      have hb23p7 := hb23p7.mono hx23.1
      have hb23p8 := hb23p8.mono hx23.1
      have hb23p17 := hb23p17.mono hx23.1
      obtain ⟨fs23a0, hOfs23a0, hRfs23a0⟩ := hx23.1.keep hM
      have hKfs23a0 : jokO _ (jFs 5) fs23a0 := hW _ _ id hOfs23a0
      have hFfs23a0_11 := hRfs23a0 _ _ g11
      have hFfs23a0_12 := hRfs23a0 _ _ g12
      have hFfs23a0_13 := hRfs23a0 _ _ g13
      have hFfs23a0_14 := hRfs23a0 _ _ g14
      have hFfs23a0_15 := hRfs23a0 _ _ g15
      have hFfs23a0_16 := hRfs23a0 _ _ g16
      have hFfs23a0_4 := hRfs23a0 _ _ hF23p4
      have hFfs23a0_6 := hRfs23a0 _ _ hF23p6
      have hFfs23a0_7 := hRfs23a0 _ _ hF23p7
      have hFfs23a0_8 := hRfs23a0 _ _ hF23p8
      have hFfs23a0_17 := hRfs23a0 _ _ hF23p17
      cases hr23
      obtain ⟨KN23, CO23, SQ23, RG23, BG23, SE23, b1, b2, b3, b4, b5, b6, hsn, hkn, hmk, hko, hot⟩ := hX23_0
      have hct : jRM V23 a0 := jRM.upd (g := x1.toInt.toNat) (n := x2.toInt.toNat) (by omega) (by omega) m1 m2 m3 m4 m5 m6 he b1 b2 b3 b4 b5 b6 hsn (by rw [hix]; exact hkn) (by rw [hig, hix]; exact hmk) (by rw [hix]; exact hko) (by rw [hix]; exact hot) hmo
      refine J_aload_n dX7_forms_26 rfl ?_
      refine J_get jf_X7_41 dX7_forms_27 hOfs23a0 hFfs23a0_12 ?_
      refine Jz_bipush 21 dX7_forms_30 (by decide) (fun y30 he30 => ?_)
      refine J_iload_n dX7_forms_32 rfl ?_
      refine Jz_imul he30 jEq.rf dX7_forms_33 (by omega) (by omega) (fun y33 he33 => ?_)
      refine J_iload_n dX7_forms_34 rfl ?_
      refine Jz_iadd he33 jEq.rf dX7_forms_35 (by omega) (by omega) (fun y35 he35 => ?_)
      obtain ⟨n36, f36, hA36, hN36, hM36, hv36⟩ := WT_arrI (r := (-2147483648, 2147483647)) hW id rfl hbm2
      obtain rfl := hM36 84 rfl
      clear hN36 hM36
      refine Jz_ialdw he35 dX7_forms_36 hA36 rfl (by omega) (by omega) (fun y36 => ?_)
      refine Jz_bipush (-5) dX7_forms_37 (by decide) (fun y37 he37 => ?_)
      refine Jz_icmp_eq (tgt := 59) jEq.rf he37 dX7_forms_39 (by decide) (fun c39 => ?_) (fun c39 => ?_)
      · refine Jz_bipush (-5) dX7_forms_59 (by decide) (fun y59 he59 => ?_)
        exact J_ret (r := some (.int _)) dX7_forms_61 ⟨rfl, _, rfl, rfl⟩ (⟨⟨hW, he, ⟨_, rfl, (j_rng _).1, (j_rng _).2⟩⟩, hct, hkp⟩)
      · refine J_aload_n dX7_forms_42 rfl ?_
        refine J_get jf_X7_41 dX7_forms_43 hOfs23a0 hFfs23a0_12 ?_
        refine Jz_bipush 21 dX7_forms_46 (by decide) (fun y46 he46 => ?_)
        refine J_iload_n dX7_forms_48 rfl ?_
        refine Jz_imul he46 jEq.rf dX7_forms_49 (by omega) (by omega) (fun y49 he49 => ?_)
        refine J_iload_n dX7_forms_50 rfl ?_
        refine Jz_iadd he49 jEq.rf dX7_forms_51 (by omega) (by omega) (fun y51 he51 => ?_)
        refine Jz_ialdw he51 dX7_forms_52 hA36 rfl (by omega) (by omega) (fun y52 => ?_)
        refine Jz_sipush 3000 dX7_forms_53 (by decide) (fun y53 he53 => ?_)
        refine Jz_icmp_le (tgt := 62) jEq.rf he53 dX7_forms_56 (by decide) (fun c56 => ?_) (fun c56 => ?_)
        · refine Jz_bipush 8 dX7_forms_62 (by decide) (fun y62 he62 => ?_)
          refine J_iload_n dX7_forms_64 rfl ?_
          refine Jz_imul he62 jEq.rf dX7_forms_65 (by omega) (by omega) (fun y65 he65 => ?_)
          refine J_iload_n dX7_forms_66 rfl ?_
          refine Jz_iadd he65 jEq.rf dX7_forms_67 (by omega) (by omega) (fun y67 he67 => ?_)
          refine J_istore_n dX7_forms_68 rfl (by decide) ?_
          refine J_aload_n dX7_forms_69 rfl ?_
          obtain ⟨w70, hF70, b70, rfl, hb70⟩ := hKfs23a0.2 18 (.inr (some (.inl 27))) rfl
          refine J_get jf_X7_61 dX7_forms_70 hOfs23a0 hF70 ?_
          refine J_iload_n dX7_forms_73 rfl ?_
          obtain ⟨n74, f74, hA74, hN74, hM74, hv74⟩ := WT_arrI (r := (-2147483648, 2147483647)) hW id rfl hb70
          obtain rfl := hM74 32 rfl
          clear hN74 hM74
          refine Jz_ialdw he67 dX7_forms_74 hA74 rfl (by omega) (by omega) (fun y74 => ?_)
          refine Jz_if_ne (tgt := 142) jEq.rf dX7_forms_75 (by decide) (fun c75 => ?_) (fun c75 => ?_)
          · refine J_aload_n dX7_forms_142 rfl ?_
            refine J_get jf_X7_61 dX7_forms_143 hOfs23a0 hF70 ?_
            refine J_iload_n dX7_forms_146 rfl ?_
            refine Jz_ialdw he67 dX7_forms_147 hA74 rfl (by omega) (by omega) (fun y147 => ?_)
            exact J_ret (r := some (.int _)) dX7_forms_148 ⟨rfl, _, rfl, rfl⟩ (⟨⟨hW, he, ⟨_, rfl, (j_rng _).1, (j_rng _).2⟩⟩, hct, hkp⟩)
          · refine J_iload_n dX7_forms_78 rfl ?_
            refine J_callS1 moX7_directions jw_ml_X7_133 jw_st_X7_directions dX7_forms_79 (w_X7_directions (d - 1) _ x1 (by omega)   ) (by omega) (Nat.zero_le _) (Nat.zero_le _) (Nat.le_of_ble_eq_true rfl) (fun r79 V79 h79 => ?_)
            obtain ⟨⟨y79, rfl, hl79, hh79, hP79_0⟩, hE79⟩ := h79
            have hE79 := hE79.symm
            subst hE79
            have hz79 : jEq y79.toInt (jdir (x1.toInt)) := hP79_0
            simp only [hP79_0] at hl79 hh79
            clear hP79_0
            refine J_iload_n dX7_forms_82 rfl ?_
            have hjd := jdir_cases x1.toInt
            refine J_callS2 moX7_power jw_ml_X7_195 jw_st_X7_power dX7_forms_83 (w_X7_power (d - 1) _ y79 x2 (by omega)   (by (try simp only [hz79.eq, true_and, and_true]) <;> omega) (by (try simp only [hz79.eq, true_and, and_true]) <;> omega) (by omega) (by omega)) (by omega) (Nat.zero_le _) (Nat.zero_le _) (Nat.le_of_ble_eq_true rfl) (fun r83 V83 h83 => ?_)
            obtain ⟨⟨y83, rfl, hl83, hh83, hP83_0⟩, hE83⟩ := h83
            have hE83 := hE83.symm
            subst hE83
            clear hl83 hh83
            try simp only [hz79.eq] at hP83_0
            have hz83 : jEq y83.toInt (jpw (jdir (x1.toInt)) (x2.toInt).toNat) := hP83_0
            clear hP83_0
            have hpw := jpw_le6 (d := jdir x1.toInt) (by omega) (by omega) (n := x2.toInt.toNat) (by omega)
            refine J_istore dX7_forms_86 rfl (by decide) ?_
            refine Jz_iconst 0 dX7_forms_88 (by decide) (fun y88 he88 => ?_)
            refine J_istore dX7_forms_89 rfl (by decide) ?_
            have L91 : ∀ (N : Nat) (V : jH) (i5n91 : Int32), WT V → jeff [.inr 5, .inl 40, .inl 23, .inl 17, .inl 18, .inl 19, .inl 20, .inl 41, .inl 26, .inl 46, .inl 24, .inl 25, .inl 21, .inl 27] V0 V → (jis V (.inr 5) a0) → (jkc 5 [0, 23, 24] V0 V) → (jRM V a0) → (0 ≤ i5n91.toInt) → (300000 - i5n91.toInt).toNat < N → J tS mX7_forms d 91 [some (.ref a0), some (.int x1), some (.int x2), some (.int y67), some (.int y83), some (.int i5n91)] [] V 0 0 (fun r V => (jPost [.inr 5, .inl 40, .inl 23, .inl 17, .inl 18, .inl 19, .inl 20, .inl 41, .inl 26, .inl 46, .inl 24, .inl 25, .inl 21, .inl 27] V0 (fun r _ => ∃ y : Int32, r = some (.int y) ∧ ((-2147483648) ≤ y.toInt) ∧ (y.toInt ≤ 2147483647))) r V ∧ jRM V a0 ∧ jkc 5 [0, 23, 24] V0 V) := by
              intro N
              induction N with
              | zero => intro V i5n91 hW he ha0 hkp hct hi5 hm; exact absurd hm (Nat.not_lt_zero _)
              | succ N ih =>
                intro V i5n91 hW he ha0 hkp hct hi5 hm
                have ih91 := ih
                have hri5 := j_rng i5n91
                refine J_iload dX7_forms_91 rfl ?_
                refine J_iload dX7_forms_93 rfl ?_
                refine Jz_icmp_ge (tgt := 142) jEq.rf hz83 dX7_forms_95 (by decide) (fun c95 => ?_) (fun c95 => ?_)
                · refine J_aload_n dX7_forms_142 rfl ?_
                  obtain ⟨fs143, hO143, hK143⟩ := WT_obj hW id ha0
                  obtain ⟨w143, hF143, b143, rfl, hb143⟩ := hK143.2 18 (.inr (some (.inl 27))) rfl
                  refine J_get jf_X7_61 dX7_forms_143 hO143 hF143 ?_
                  refine J_iload_n dX7_forms_146 rfl ?_
                  obtain ⟨n147, f147, hA147, hN147, hM147, hv147⟩ := WT_arrI (r := (-2147483648, 2147483647)) hW id rfl hb143
                  obtain rfl := hM147 32 rfl
                  clear hN147 hM147
                  refine Jz_ialdw he67 dX7_forms_147 hA147 rfl (by omega) (by omega) (fun y147 => ?_)
                  exact J_ret (r := some (.int _)) dX7_forms_148 ⟨rfl, _, rfl, rfl⟩ (⟨⟨hW, he, ⟨_, rfl, (j_rng _).1, (j_rng _).2⟩⟩, hct, hkp⟩)
                · refine J_aload_n dX7_forms_98 rfl ?_
                  refine J_iload_n dX7_forms_99 rfl ?_
                  refine J_iload_n dX7_forms_100 rfl ?_
                  refine J_iload dX7_forms_101 rfl ?_
                  obtain ⟨fs103p22, hO103p22, hK103p22⟩ := WT_obj hW id ha0
                  obtain ⟨w103p22, hF103p22, y103p22, rfl, hl103p22, hh103p22⟩ := hK103p22.2 22 (.inl ((-2147483648), 2147483647)) rfl
                  dsimp only at hl103p22 hh103p22
                  obtain ⟨w103p4, hF103p4, b103p4, rfl, hb103p4⟩ := hK103p22.2 4 (.inr (some (.inl 17))) rfl
                  refine Jw_callV3 (q9 := (RX7, TX7, 34)) moX7_rowOf jw_ml_X7_198 jw_im_X7_rowOf jw_se_X7_rowOf ha0 rfl rfl dX7_forms_103 (w_X7_rowOf (d - 1) _ a0 x1 x2 i5n91 y103p22 b103p4 (by omega) hW  ha0 ⟨_, hO103p22, hF103p22⟩ ⟨_, hO103p22, hF103p4⟩ (by omega) (by omega) (by omega)) (by omega) (Nat.zero_le _) (Nat.zero_le _) (Nat.le_of_ble_eq_true rfl) (fun r103 V103 h103 => ?_)
                  obtain ⟨h103, hX103_0, hX103_1, ⟨fv103_0, hfv103_0, hfp103_0⟩, ⟨fv103_1, hfv103_1, hfp103_1⟩⟩ := h103
                  obtain ⟨hW, hx103, hr103⟩ := h103
                  have he := he.trans (hx103.sub (jsub_of rfl))
                  have hkp := hkp.trans hX103_1
                  have hct := hct.keep hx103 (jdis_of rfl)
                  have ha0 := ha0.mono hx103.1
                  have hb103p4 := hb103p4.mono hx103.1
                  obtain ⟨fs103a0, hOfs103a0, hRfs103a0⟩ := hx103.1.keep hO103p22
                  have hKfs103a0 : jokO _ (jFs 5) fs103a0 := hW _ _ id hOfs103a0
                  have hFfs103a0_4 := hRfs103a0 _ _ hF103p4
                  cases hr103
                  have hFv103_0 := hfv103_0.get hOfs103a0
                  have hzf103_0 : jEq fv103_0.toInt ((x2.toInt)) := hfp103_0
                  clear hfp103_0
                  have hFv103_1 := hfv103_1.get hOfs103a0
                  have hzf103_1 : jEq fv103_1.toInt ((y103p22.toInt)) := hfp103_1
                  clear hfp103_1
                  refine J_aload_n dX7_forms_106 rfl ?_
                  obtain ⟨w107, hF107, b107, rfl, hb107⟩ := hKfs103a0.2 18 (.inr (some (.inl 27))) rfl
                  refine J_get jf_X7_61 dX7_forms_107 hOfs103a0 hF107 ?_
                  refine J_iload_n dX7_forms_110 rfl ?_
                  refine J_dup2 dX7_forms_111 rfl rfl ?_
                  obtain ⟨n112, f112, hA112, hN112, hM112, hv112⟩ := WT_arrI (r := (-2147483648, 2147483647)) hW id rfl hb107
                  obtain rfl := hM112 32 rfl
                  clear hN112 hM112
                  refine Jz_ialdw he67 dX7_forms_112 hA112 rfl (by omega) (by omega) (fun y112 => ?_)
                  refine J_aload_n dX7_forms_113 rfl ?_
                  refine J_iload_n dX7_forms_114 rfl ?_
                  refine Jw_callV1 (q9 := (RX7, TX7, 34)) moX7_goes jw_ml_X7_122 jw_im_X7_goes jw_se_X7_goes ha0 rfl rfl dX7_forms_115 (w_X7_goes (d - 1) _ a0 x1 (by omega) hW  ha0) (by omega) (Nat.zero_le _) (Nat.zero_le _) (Nat.le_of_ble_eq_true rfl) (fun r115 V115 h115 => ?_)
                  obtain ⟨hW, hx115, hr115⟩ := h115
                  have he := he.trans (hx115.sub (jsub_of rfl))
                  have hkp := hkp.trans (jkc.of hx115 (jnot_of rfl))
                  have hct := hct.keep hx115 (jdis_of rfl)
                  have ha0 := ha0.mono hx115.1
                  have hb103p4 := hb103p4.mono hx115.1
                  have hb107 := hb107.mono hx115.1
                  have hOfs103a0 := hx115.2 _ _ hOfs103a0 (jnot_of rfl)
                  have hKfs103a0 := hKfs103a0.mono hx115.1
                  have hA112 := hx115.2 _ _ hA112 (jnot_of rfl)
                  obtain ⟨y115, rfl, hl115, hh115⟩ := hr115
                  have K134 : ∀ (V : jH) (t0k134 : Int32), WT V → jeff [.inr 5, .inl 40, .inl 23, .inl 17, .inl 18, .inl 19, .inl 20, .inl 41, .inl 26, .inl 46, .inl 24, .inl 25, .inl 21, .inl 27] V0 V → jis V (.inr 5) a0 → jis V (.inl 27) b107 → jkc 5 [0, 23, 24] V0 V → jRM V a0 → J tS mX7_forms d 134 [some (.ref a0), some (.int x1), some (.int x2), some (.int y67), some (.int y83), some (.int i5n91)] [.int t0k134, .int y112, .int y67, .ref b107] V 0 0 (fun r V => (jPost [.inr 5, .inl 40, .inl 23, .inl 17, .inl 18, .inl 19, .inl 20, .inl 41, .inl 26, .inl 46, .inl 24, .inl 25, .inl 21, .inl 27] V0 (fun r _ => ∃ y : Int32, r = some (.int y) ∧ ((-2147483648) ≤ y.toInt) ∧ (y.toInt ≤ 2147483647))) r V ∧ jRM V a0 ∧ jkc 5 [0, 23, 24] V0 V) := by
                    intro V t0k134 hW he ha0 hb107 hkp hct 
                    refine Jz_iaddw dX7_forms_134 (fun y134  => ?_)
                    obtain ⟨n135, f135, hA135, hN135, hM135, hv135⟩ := WT_arrI (r := (-2147483648, 2147483647)) hW id rfl hb107
                    obtain rfl := hM135 32 rfl
                    clear hN135 hM135
                    refine Jz_iastw (r := ((-2147483648), 2147483647)) he67 jEq.rf hW id dX7_forms_135 hA135 rfl rfl (by omega) (by omega) (j_rng _).1 (j_rng _).2 (fun V135 hW hx135 => ?_)
                    have he := he.trans (hx135.sub (jsub_of rfl))
                    have hkp := hkp.trans (jkc.of hx135 (jnot_of rfl))
                    have hct := hct.keep hx135 (jdis_of rfl)
                    have ha0 := ha0.mono hx135.1
                    refine Jz_iinc 1 dX7_forms_136 rfl rfl (by decide) jEq.rf (by decide) (by omega) (by omega) (fun y136 he136 => ?_)
                    refine J_goto (tgt := 91) dX7_forms_139 (by decide) ?_
                    refine J.mask [true, true, true, true, true, true] ?_
                    exact ih91 _ y136 hW he ha0 hkp hct (by (try simp only [he136.eq, true_and, and_true]) <;> omega) (by (try simp only [he136.eq, true_and, and_true]) <;> omega)
                  refine Jz_if_eq (tgt := 133) jEq.rf dX7_forms_118 (by decide) (fun c118 => ?_) (fun c118 => ?_)
                  · refine Jz_iconst 0 dX7_forms_133 (by decide) (fun y133 he133 => ?_)
                    exact K134 _ y133 hW he ha0 hb107 hkp hct 
                  · refine J_aload_n dX7_forms_121 rfl ?_
                    refine J_iload_n dX7_forms_122 rfl ?_
                    refine Jw_callV1 (q9 := (RX7, TX7, 34)) moX7_isForm jw_ml_X7_202 jw_im_X7_isForm jw_se_X7_isForm ha0 rfl rfl dX7_forms_123 (w_X7_isForm (d - 1) _ a0 x1 fv103_0 (by omega) hW  ha0 ⟨_, hOfs103a0, hFv103_0⟩ (by (try simp only [hzf103_0.eq, true_and, and_true]) <;> omega)) (by omega) (Nat.zero_le _) (Nat.zero_le _) (Nat.le_of_ble_eq_true rfl) (fun r123 V123 h123 => ?_)
                    obtain ⟨hW, hx123, hr123⟩ := h123
                    have he := he.trans (hx123.sub (jsub_of rfl))
                    have hkp := hkp.trans (jkc.of hx123 (jnot_of rfl))
                    have hct := hct.keep hx123 (jdis_of rfl)
                    have ha0 := ha0.mono hx123.1
                    have hb103p4 := hb103p4.mono hx123.1
                    have hb107 := hb107.mono hx123.1
                    have hOfs103a0 := hx123.2 _ _ hOfs103a0 (jnot_of rfl)
                    have hKfs103a0 := hKfs103a0.mono hx123.1
                    have hA112 := hx123.2 _ _ hA112 (jnot_of rfl)
                    obtain ⟨y123, rfl, hl123, hh123⟩ := hr123
                    refine Jz_if_eq (tgt := 133) jEq.rf dX7_forms_126 (by decide) (fun c126 => ?_) (fun c126 => ?_)
                    · refine Jz_iconst 0 dX7_forms_133 (by decide) (fun y133 he133 => ?_)
                      exact K134 _ y133 hW he ha0 hb107 hkp hct 
                    · refine Jz_iconst 1 dX7_forms_129 (by decide) (fun y129 he129 => ?_)
                      refine J_goto (tgt := 134) dX7_forms_130 (by decide) ?_
                      exact K134 _ y129 hW he ha0 hb107 hkp hct 
            refine J.mask [true, true, true, true, true, true] ?_
            exact L91 _ _ y88 hW he ha0 hkp hct (by (try simp only [he88.eq, true_and, and_true]) <;> omega) (Nat.lt_succ_self _)
        · refine Jz_bipush (-5) dX7_forms_59 (by decide) (fun y59 he59 => ?_)
          exact J_ret (r := some (.int _)) dX7_forms_61 ⟨rfl, _, rfl, rfl⟩ (⟨⟨hW, he, ⟨_, rfl, (j_rng _).1, (j_rng _).2⟩⟩, hct, hkp⟩)
    · have q14_1 := hI11_1.of (by omega)
      try simp only [he8.eq, he9.eq] at q14_1
      refine Jz_bipush (-2) dX7_forms_17 (by decide) (fun y17 he17 => ?_)
      exact J_ret (r := some (.int _)) dX7_forms_19 ⟨rfl, _, rfl, rfl⟩ (⟨⟨hW, he, ⟨_, rfl, (j_rng _).1, (j_rng _).2⟩⟩, hct, hkp⟩)
