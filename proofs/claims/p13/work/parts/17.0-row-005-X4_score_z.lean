set_option maxRecDepth 100000 in
set_option maxHeartbeats 8000000 in
theorem w_X4_score_z {tS : jTS} (d : Nat) (V0 : jH) (a0 : Nat) (x1 : Int32) (x2 : Int32) (x3 : Int32) (x4 : Int32) (g : Int32) (R : Int32) (sd : Int32) (lv : Int32) (cd : Int32) (tg : Int32) (wc : Nat) (sq : Nat) (rc : Nat) (bc : Nat) (l : List jP3) (WC : Nat → Int32) (SQ : Nat → Int64) (RC : Nat → Int32) (BC : Nat → Int32) (hd : 2 ≤ d) (hW : WT V0) (ha0 : jis V0 (.inr 2) a0) (hf_g : jfI V0 a0 2 0 g) (hf_R : jfI V0 a0 2 1 R) (hf_sd : jfI V0 a0 2 2 sd) (hf_lv : jfI V0 a0 2 10 lv) (hf_cd : jfI V0 a0 2 11 cd) (hf_tg : jfI V0 a0 2 12 tg) (hr_wc : jfR V0 a0 2 4 wc) (hr_sq : jfR V0 a0 2 5 sq) (hr_rc : jfR V0 a0 2 6 rc) (hr_bc : jfR V0 a0 2 7 bc) (ha_WC : V0 wc = some (.inl (8, 21, .inl WC))) (ha_SQ : V0 sq = some (.inl (1, 21, .inr (.inl SQ)))) (ha_RC : V0 rc = some (.inl (37, 21, .inl RC))) (ha_BC : V0 bc = some (.inl (38, 21, .inl BC))) (hp0 : 0 ≤ g.toInt) (hp1 : g.toInt ≤ 3) (hp2 : 0 ≤ lv.toInt) (hp3 : lv.toInt ≤ 20) (hp4 : -20 ≤ x1.toInt) (hp5 : x1.toInt ≤ 20) (hp6 : -20 ≤ x2.toInt) (hp7 : x2.toInt ≤ 20) (hp8 : -20 ≤ x3.toInt) (hp9 : x3.toInt ≤ 20) (hp10 : 0 ≤ tg.toInt) (hp11 : tg.toInt ≤ 600000) (hp12 : 0 ≤ (WC lv.toInt.toNat).toInt) (hp13 : (WC lv.toInt.toNat).toInt ≤ 600000) (hp14 : l.headD (0, 0, 0) = (x1.toInt, x2.toInt, x3.toInt)) (hp15 : x4.toInt = x1.toInt ↔ (0 < x1.toInt ∧ jtp l = x1.toInt)) : jTot tS mX4_score d [.ref a0, .int x1, .int x2, .int x3, .int x4] V0 0 0 (fun r V => (jPost [.inr 2, .inl 1, .inl 8, .inl 37, .inl 38] V0 rV) r V ∧ (∃ (WC2 : Nat → Int32) (SQ2 : Nat → Int64) (RC2 BC2 : Nat → Int32) (sp2 : Int32), V wc = some (.inl (8, 21, .inl WC2)) ∧ V sq = some (.inl (1, 21, .inr (.inl SQ2))) ∧ V rc = some (.inl (37, 21, .inl RC2)) ∧ V bc = some (.inl (38, 21, .inl BC2)) ∧ jfI V a0 2 13 sp2 ∧ jac WC2 SQ2 RC2 BC2 lv.toInt.toNat = jsc g.toInt l (jac WC SQ RC BC lv.toInt.toNat) ∧ (WC2 lv.toInt.toNat).toInt = (WC lv.toInt.toNat).toInt + 1 ∧ ((sp2.toInt = 1 ∧ 600000 < tg.toInt + (WC2 lv.toInt.toNat).toInt) ∨ (sp2.toInt = 0 ∧ ¬ 600000 < tg.toInt + (WC2 lv.toInt.toNat).toInt)) ∧ jot WC2 SQ2 RC2 BC2 WC SQ RC BC lv.toInt.toNat) ∧ jfp [a0, wc, sq, rc, bc] V0 V ∧ (∃ g2 : Int32, jfI V a0 2 0 g2 ∧ (g2.toInt = g.toInt)) ∧ (∃ R2 : Int32, jfI V a0 2 1 R2 ∧ (R2.toInt = R.toInt)) ∧ (∃ sd2 : Int32, jfI V a0 2 2 sd2 ∧ (sd2.toInt = sd.toInt)) ∧ (∃ lv2 : Int32, jfI V a0 2 10 lv2 ∧ (lv2.toInt = lv.toInt)) ∧ (∃ cd2 : Int32, jfI V a0 2 11 cd2 ∧ (cd2.toInt = cd.toInt)) ∧ (∃ tg2 : Int32, jfI V a0 2 12 tg2 ∧ (tg2.toInt = tg.toInt))) := by
  refine jTot.of_J [some (.ref a0), some (.int x1), some (.int x2), some (.int x3), some (.int x4)] moX4_score (Nat.le_of_ble_eq_true rfl) rfl ?_
  have hrx1 := j_rng x1
  have hrx2 := j_rng x2
  have hrx3 := j_rng x3
  have hrx4 := j_rng x4
  have he : jeff [.inr 2, .inl 1, .inl 8, .inl 37, .inl 38] V0 V0 := jeff.refl _ _
  have hfp : jfp [a0, wc, sq, rc, bc] V0 V0 := jfp.rf
  obtain ⟨fs_a0, hO_a0, hK_a0⟩ := WT_obj hW id ha0
  have hF_g := hf_g.get hO_a0
  have hrg : (-2147483648) ≤ g.toInt ∧ g.toInt ≤ 2147483647 := jok_rngI hK_a0 rfl hF_g
  have hF_R := hf_R.get hO_a0
  have hrR : 0 ≤ R.toInt ∧ R.toInt ≤ 20 := jok_rngI hK_a0 rfl hF_R
  have hF_sd := hf_sd.get hO_a0
  have hrsd : (-2147483648) ≤ sd.toInt ∧ sd.toInt ≤ 2147483647 := jok_rngI hK_a0 rfl hF_sd
  have hF_lv := hf_lv.get hO_a0
  have hrlv : 0 ≤ lv.toInt ∧ lv.toInt ≤ 20 := jok_rngI hK_a0 rfl hF_lv
  have hF_cd := hf_cd.get hO_a0
  have hrcd : 0 ≤ cd.toInt ∧ cd.toInt ≤ 20 := jok_rngI hK_a0 rfl hF_cd
  have hF_tg := hf_tg.get hO_a0
  have hrtg : (-2147483648) ≤ tg.toInt ∧ tg.toInt ≤ 2147483647 := jok_rngI hK_a0 rfl hF_tg
  have hF_wc := hr_wc.get hO_a0
  obtain ⟨w_wc, hFq_wc, b_wc, hbq_wc, hb_wc⟩ := hK_a0.2 4 (.inr (some (.inl 8))) rfl
  cases hF_wc.symm.trans (hFq_wc.trans (congrArg some hbq_wc))
  have hF_sq := hr_sq.get hO_a0
  obtain ⟨w_sq, hFq_sq, b_sq, hbq_sq, hb_sq⟩ := hK_a0.2 5 (.inr (some (.inl 1))) rfl
  cases hF_sq.symm.trans (hFq_sq.trans (congrArg some hbq_sq))
  have hF_rc := hr_rc.get hO_a0
  obtain ⟨w_rc, hFq_rc, b_rc, hbq_rc, hb_rc⟩ := hK_a0.2 6 (.inr (some (.inl 37))) rfl
  cases hF_rc.symm.trans (hFq_rc.trans (congrArg some hbq_rc))
  have hF_bc := hr_bc.get hO_a0
  obtain ⟨w_bc, hFq_bc, b_bc, hbq_bc, hb_bc⟩ := hK_a0.2 7 (.inr (some (.inl 38))) rfl
  cases hF_bc.symm.trans (hFq_bc.trans (congrArg some hbq_bc))
  obtain ⟨hN_WC, hv_WC⟩ := WT_rngI (r := ((-2147483648), 2147483647)) hW id rfl ha_WC
  clear hN_WC
  obtain ⟨hN_RC, hv_RC⟩ := WT_rngI (r := ((-2147483648), 2147483647)) hW id rfl ha_RC
  clear hN_RC
  obtain ⟨hN_BC, hv_BC⟩ := WT_rngI (r := ((-2147483648), 2147483647)) hW id rfl ha_BC
  clear hN_BC
  refine J_aload_n dX4_score_0 rfl ?_
  refine J_get jf_X4_31 dX4_score_1 hO_a0 hF_lv ?_
  refine Jz_if_lt (tgt := 55) jEq.rf dX4_score_4 (by decide) (fun c4 => ?_) (fun c4 => ?_)
  · exact False.elim (by omega)
  · refine J_aload_n dX4_score_7 rfl ?_
    refine J_get jf_X4_31 dX4_score_8 hO_a0 hF_lv ?_
    refine J_aload_n dX4_score_11 rfl ?_
    refine J_get jf_X4_9 dX4_score_12 hO_a0 hF_wc ?_
    refine J_alen dX4_score_15 ha_WC rfl rfl ?_
    have he15 : jEq (Int32.ofNat 21).toInt 21 := nI_toInt (by decide)
    generalize Int32.ofNat 21 = y15 at he15 ⊢
    refine Jz_icmp_ge (tgt := 55) jEq.rf he15 dX4_score_16 (by decide) (fun c16 => ?_) (fun c16 => ?_)
    · exact False.elim (by omega)
    · refine J_aload_n dX4_score_19 rfl ?_
      refine J_get jf_X4_31 dX4_score_20 hO_a0 hF_lv ?_
      refine J_aload_n dX4_score_23 rfl ?_
      refine J_get jf_X4_15 dX4_score_24 hO_a0 hF_sq ?_
      refine J_alen dX4_score_27 ha_SQ rfl rfl ?_
      have he27 : jEq (Int32.ofNat 21).toInt 21 := nI_toInt (by decide)
      generalize Int32.ofNat 21 = y27 at he27 ⊢
      refine Jz_icmp_ge (tgt := 55) jEq.rf he27 dX4_score_28 (by decide) (fun c28 => ?_) (fun c28 => ?_)
      · exact False.elim (by omega)
      · refine J_aload_n dX4_score_31 rfl ?_
        refine J_get jf_X4_31 dX4_score_32 hO_a0 hF_lv ?_
        refine J_aload_n dX4_score_35 rfl ?_
        refine J_get jf_X4_19 dX4_score_36 hO_a0 hF_rc ?_
        refine J_alen dX4_score_39 ha_RC rfl rfl ?_
        have he39 : jEq (Int32.ofNat 21).toInt 21 := nI_toInt (by decide)
        generalize Int32.ofNat 21 = y39 at he39 ⊢
        refine Jz_icmp_ge (tgt := 55) jEq.rf he39 dX4_score_40 (by decide) (fun c40 => ?_) (fun c40 => ?_)
        · exact False.elim (by omega)
        · refine J_aload_n dX4_score_43 rfl ?_
          refine J_get jf_X4_31 dX4_score_44 hO_a0 hF_lv ?_
          refine J_aload_n dX4_score_47 rfl ?_
          refine J_get jf_X4_22 dX4_score_48 hO_a0 hF_bc ?_
          refine J_alen dX4_score_51 ha_BC rfl rfl ?_
          have he51 : jEq (Int32.ofNat 21).toInt 21 := nI_toInt (by decide)
          generalize Int32.ofNat 21 = y51 at he51 ⊢
          refine Jz_icmp_lt (tgt := 56) jEq.rf he51 dX4_score_52 (by decide) (fun c52 => ?_) (fun c52 => ?_)
          · refine J_aload_n dX4_score_56 rfl ?_
            refine J_get jf_X4_9 dX4_score_57 hO_a0 hF_wc ?_
            refine J_aload_n dX4_score_60 rfl ?_
            refine J_get jf_X4_31 dX4_score_61 hO_a0 hF_lv ?_
            refine J_dup2 dX4_score_64 rfl rfl ?_
            refine Jz_iald (r := ((-2147483648), 2147483647)) jEq.rf dX4_score_65 ha_WC rfl hv_WC (by omega) (by omega) (fun y65 hf65 hl65 hh65 => ?_)
            dsimp only at hl65 hh65
            clear hl65 hh65
            have hq65 : (WC lv.toInt.toNat).toInt = y65.toInt := by rw [hf65]
            refine Jz_iconst 1 dX4_score_66 (by decide) (fun y66 he66 => ?_)
            refine Jz_iadd jEq.rf he66 dX4_score_67 (by omega) (by omega) (fun y67 he67 => ?_)
            refine Jz_iastB (r := ((-2147483648), 2147483647)) jEq.rf he67 hW id dX4_score_68 ha_WC rfl rfl (by omega) (by omega) (by omega) (by omega) (fun V68 G68 hW hx68 hA68 hp68 ho68 hB68 => ?_)
            obtain ⟨hN68, hv68⟩ := WT_rngI (r := ((-2147483648), 2147483647)) hW id rfl hA68
            clear hN68
            have he := he.trans (hx68.sub (jsub_of rfl))
            have hfp := hfp.trans (jfp.one hB68 (List.mem_cons_of_mem _ List.mem_cons_self))
            have ha0 := ha0.mono hx68.1
            have hb_wc := hb_wc.mono hx68.1
            have hb_sq := hb_sq.mono hx68.1
            have hb_rc := hb_rc.mono hx68.1
            have hb_bc := hb_bc.mono hx68.1
            have hO_a0 := hx68.2 _ _ hO_a0 (jnot_of rfl)
            have hK_a0 := hK_a0.mono hx68.1
            have ha_SQ := hx68.2 _ _ ha_SQ (jnot_of rfl)
            have ha_RC := hx68.2 _ _ ha_RC (jnot_of rfl)
            have ha_BC := hx68.2 _ _ ha_BC (jnot_of rfl)
            refine J_aload_n dX4_score_69 rfl ?_
            refine J_get jf_X4_15 dX4_score_70 hO_a0 hF_sq ?_
            refine J_aload_n dX4_score_73 rfl ?_
            refine J_get jf_X4_31 dX4_score_74 hO_a0 hF_lv ?_
            refine J_dup2 dX4_score_77 rfl rfl ?_
            refine Jz_laldx jEq.rf dX4_score_78 ha_SQ rfl (by omega) (by omega) ?_
            refine J_aload_n dX4_score_79 rfl ?_
            refine J_get jf_X4_45 dX4_score_80 hO_a0 hF_g ?_
            refine J_iload_n dX4_score_83 rfl ?_
            refine J_iload_n dX4_score_84 rfl ?_
            refine J_iload_n dX4_score_85 rfl ?_
            refine J_callS4 moX0_square jw_ml_X4_108 jw_st_X0_square dX4_score_86 (w_X0_square_z (d - 1) _ g x1 x2 x3 (by omega)   (by omega) (by omega) (by omega) (by omega) (by omega) (by omega)) (by omega) (Nat.zero_le _) (Nat.zero_le _) (Nat.le_of_ble_eq_true rfl) (fun r86 V86 h86 => ?_)
            obtain ⟨⟨y86, rfl, hl86, hh86, hP86_0⟩, hE86⟩ := h86
            have hE86 := hE86.symm
            subst hE86
            clear hl86 hh86
            have hz86 : jEq y86.toInt (jsq (g.toInt) (x1.toInt) (x2.toInt) (x3.toInt)) := hP86_0
            clear hP86_0
            refine J_i2l dX4_score_89 rfl ?_
            refine J_ladd dX4_score_90 ?_
            refine Jz_lastB jEq.rf hW id dX4_score_91 ha_SQ rfl rfl (by omega) (by omega) (fun V91 G91 hW hx91 hA91 hp91 ho91 hB91 => ?_)
            have he := he.trans (hx91.sub (jsub_of rfl))
            have hfp := hfp.trans (jfp.one hB91 (List.mem_cons_of_mem _ (List.mem_cons_of_mem _ List.mem_cons_self)))
            have ha0 := ha0.mono hx91.1
            have hb_wc := hb_wc.mono hx91.1
            have hb_sq := hb_sq.mono hx91.1
            have hb_rc := hb_rc.mono hx91.1
            have hb_bc := hb_bc.mono hx91.1
            have hO_a0 := hx91.2 _ _ hO_a0 (jnot_of rfl)
            have hK_a0 := hK_a0.mono hx91.1
            have ha_RC := hx91.2 _ _ ha_RC (jnot_of rfl)
            have ha_BC := hx91.2 _ _ ha_BC (jnot_of rfl)
            have hA68 := hx91.2 _ _ hA68 (jnot_of rfl)
            refine J_aload_n dX4_score_92 rfl ?_
            refine J_get jf_X4_45 dX4_score_93 hO_a0 hF_g ?_
            refine J_iload_n dX4_score_96 rfl ?_
            refine J_iload_n dX4_score_97 rfl ?_
            refine J_iload_n dX4_score_98 rfl ?_
            refine J_callS4 moX0_isBesideBeginning jw_ml_X4_111 jw_st_X0_isBesideBeginning dX4_score_99 (w_X0_isBesideBeginning_z (d - 1) _ g x1 x2 x3 (by omega)   (by omega) (by omega) (by omega) (by omega) (by omega) (by omega)) (by omega) (Nat.zero_le _) (Nat.zero_le _) (Nat.le_of_ble_eq_true rfl) (fun r99 V99 h99 => ?_)
            obtain ⟨⟨y99, rfl, hl99, hh99, hP99_0⟩, hE99⟩ := h99
            have hE99 := hE99.symm
            subst hE99
            refine Jz_if_eq (tgt := 118) jEq.rf dX4_score_102 (by decide) (fun c102 => ?_) (fun c102 => ?_)
            · refine J_iload dX4_score_118 rfl ?_
              refine J_iload_n dX4_score_120 rfl ?_
              refine Jz_icmp_ne (tgt := 137) jEq.rf jEq.rf dX4_score_121 (by decide) (fun c121 => ?_) (fun c121 => ?_)
              · refine J_aload_n dX4_score_137 rfl ?_
                refine J_aload_n dX4_score_138 rfl ?_
                refine J_get jf_X4_38 dX4_score_139 hO_a0 hF_tg ?_
                refine J_aload_n dX4_score_142 rfl ?_
                refine J_get jf_X4_9 dX4_score_143 hO_a0 hF_wc ?_
                refine J_aload_n dX4_score_146 rfl ?_
                refine J_get jf_X4_31 dX4_score_147 hO_a0 hF_lv ?_
                refine Jz_iald (r := ((-2147483648), 2147483647)) jEq.rf dX4_score_150 hA68 rfl hv68 (by omega) (by omega) (fun y150 hf150 hl150 hh150 => ?_)
                dsimp only at hl150 hh150
                clear hl150 hh150
                have he150 : jEq y150.toInt (y65.toInt + 1) := by rw [← hf150, hp68]; exact he67
                refine Jz_iadd jEq.rf he150 dX4_score_151 (by omega) (by omega) (fun y151 he151 => ?_)
                refine Jz_ldc 600000 jw_k_X4_115 dX4_score_152 (by decide) (fun y152 he152 => ?_)
                refine Jz_icmp_le (tgt := 161) he151 he152 dX4_score_154 (by decide) (fun c154 => ?_) (fun c154 => ?_)
                · refine Jz_iconst 0 dX4_score_161 (by decide) (fun y161 he161 => ?_)
                  refine Jz_putI hO_a0 hW id rfl jf_X4_41 jt_X4_13 he161 dX4_score_162 (by omega) (by omega) (fun _ h => ⟨nar_b (by omega) (by omega), fit_b (by omega) (by omega)⟩) (fun V162 fs162 hW hx162 hO162 hS162 hT162 hB162 => ?_)
                  have hK162 : jokO _ (jFs 2) fs162 := hW _ _ id hO162
                  have hF162_0 := (hT162 0 (by decide)).trans hF_g
                  have hF162_1 := (hT162 1 (by decide)).trans hF_R
                  have hF162_2 := (hT162 2 (by decide)).trans hF_sd
                  have hF162_10 := (hT162 10 (by decide)).trans hF_lv
                  have hF162_11 := (hT162 11 (by decide)).trans hF_cd
                  have hF162_12 := (hT162 12 (by decide)).trans hF_tg
                  have hF162_4 := (hT162 4 (by decide)).trans hF_wc
                  have hF162_5 := (hT162 5 (by decide)).trans hF_sq
                  have hF162_6 := (hT162 6 (by decide)).trans hF_rc
                  have hF162_7 := (hT162 7 (by decide)).trans hF_bc
                  have he := he.trans (hx162.sub (jsub_of rfl))
                  have hfp := hfp.trans (jfp.one hB162 List.mem_cons_self)
                  have ha0 := ha0.mono hx162.1
                  have hb_wc := hb_wc.mono hx162.1
                  have hb_sq := hb_sq.mono hx162.1
                  have hb_rc := hb_rc.mono hx162.1
                  have hb_bc := hb_bc.mono hx162.1
                  have ha_RC := hx162.2 _ _ ha_RC (jnot_of rfl)
                  have ha_BC := hx162.2 _ _ ha_BC (jnot_of rfl)
                  have hA68 := hx162.2 _ _ hA68 (jnot_of rfl)
                  have hA91 := hx162.2 _ _ hA91 (jnot_of rfl)
                  exact J_ret (r := none) dX4_score_165 ⟨rfl, rfl⟩ (⟨⟨hW, he, rfl⟩, ⟨G68, G91, RC, BC, y161, hA68, hA91, ha_RC, ha_BC, ⟨_, hO162, hS162⟩, (jsc_mk hp14 hp12 (by rw [hp68, he67.eq]; omega) hz86.eq hp91 (by first | exact Or.inl ⟨(hP99_0.elim (fun q => q.2) (fun q => absurd q.1 c102)), (hp117.trans (by rw [← hf114, show y115 = 1 from jI_inj.mp (he115.eq.trans rfl)]))⟩ | exact Or.inr ⟨(hP99_0.elim (fun q => absurd q.1 (by omega)) (fun q => q.2)), rfl⟩) (by first | exact Or.inl ⟨hp15.mp (by omega), (hp136.trans (by rw [← hf133, show y134 = 1 from jI_inj.mp (he134.eq.trans rfl)]))⟩ | exact Or.inr ⟨fun z => absurd (hp15.mpr z) (by omega), rfl⟩)), (by rw [hp68, he67.eq]; omega), (by first | (rw [he157.eq, hp68, he67.eq]; omega) | (rw [he161.eq, hp68, he67.eq]; omega)), (fun j hj => ⟨ho68 j hj, ho91 j hj, (by first | exact ho117 j hj | rfl), (by first | exact ho136 j hj | rfl)⟩)⟩, hfp, ⟨_, ⟨_, hO162, hF162_0⟩, (by omega)⟩, ⟨_, ⟨_, hO162, hF162_1⟩, (by omega)⟩, ⟨_, ⟨_, hO162, hF162_2⟩, (by omega)⟩, ⟨_, ⟨_, hO162, hF162_10⟩, (by omega)⟩, ⟨_, ⟨_, hO162, hF162_11⟩, (by omega)⟩, ⟨_, ⟨_, hO162, hF162_12⟩, (by omega)⟩⟩)
                · refine Jz_iconst 1 dX4_score_157 (by decide) (fun y157 he157 => ?_)
                  refine J_goto (tgt := 162) dX4_score_158 (by decide) ?_
                  refine Jz_putI hO_a0 hW id rfl jf_X4_41 jt_X4_13 he157 dX4_score_162 (by omega) (by omega) (fun _ h => ⟨nar_b (by omega) (by omega), fit_b (by omega) (by omega)⟩) (fun V162 fs162 hW hx162 hO162 hS162 hT162 hB162 => ?_)
                  have hK162 : jokO _ (jFs 2) fs162 := hW _ _ id hO162
                  have hF162_0 := (hT162 0 (by decide)).trans hF_g
                  have hF162_1 := (hT162 1 (by decide)).trans hF_R
                  have hF162_2 := (hT162 2 (by decide)).trans hF_sd
                  have hF162_10 := (hT162 10 (by decide)).trans hF_lv
                  have hF162_11 := (hT162 11 (by decide)).trans hF_cd
                  have hF162_12 := (hT162 12 (by decide)).trans hF_tg
                  have hF162_4 := (hT162 4 (by decide)).trans hF_wc
                  have hF162_5 := (hT162 5 (by decide)).trans hF_sq
                  have hF162_6 := (hT162 6 (by decide)).trans hF_rc
                  have hF162_7 := (hT162 7 (by decide)).trans hF_bc
                  have he := he.trans (hx162.sub (jsub_of rfl))
                  have hfp := hfp.trans (jfp.one hB162 List.mem_cons_self)
                  have ha0 := ha0.mono hx162.1
                  have hb_wc := hb_wc.mono hx162.1
                  have hb_sq := hb_sq.mono hx162.1
                  have hb_rc := hb_rc.mono hx162.1
                  have hb_bc := hb_bc.mono hx162.1
                  have ha_RC := hx162.2 _ _ ha_RC (jnot_of rfl)
                  have ha_BC := hx162.2 _ _ ha_BC (jnot_of rfl)
                  have hA68 := hx162.2 _ _ hA68 (jnot_of rfl)
                  have hA91 := hx162.2 _ _ hA91 (jnot_of rfl)
                  exact J_ret (r := none) dX4_score_165 ⟨rfl, rfl⟩ (⟨⟨hW, he, rfl⟩, ⟨G68, G91, RC, BC, y157, hA68, hA91, ha_RC, ha_BC, ⟨_, hO162, hS162⟩, (jsc_mk hp14 hp12 (by rw [hp68, he67.eq]; omega) hz86.eq hp91 (by first | exact Or.inl ⟨(hP99_0.elim (fun q => q.2) (fun q => absurd q.1 c102)), (hp117.trans (by rw [← hf114, show y115 = 1 from jI_inj.mp (he115.eq.trans rfl)]))⟩ | exact Or.inr ⟨(hP99_0.elim (fun q => absurd q.1 (by omega)) (fun q => q.2)), rfl⟩) (by first | exact Or.inl ⟨hp15.mp (by omega), (hp136.trans (by rw [← hf133, show y134 = 1 from jI_inj.mp (he134.eq.trans rfl)]))⟩ | exact Or.inr ⟨fun z => absurd (hp15.mpr z) (by omega), rfl⟩)), (by rw [hp68, he67.eq]; omega), (by first | (rw [he157.eq, hp68, he67.eq]; omega) | (rw [he161.eq, hp68, he67.eq]; omega)), (fun j hj => ⟨ho68 j hj, ho91 j hj, (by first | exact ho117 j hj | rfl), (by first | exact ho136 j hj | rfl)⟩)⟩, hfp, ⟨_, ⟨_, hO162, hF162_0⟩, (by omega)⟩, ⟨_, ⟨_, hO162, hF162_1⟩, (by omega)⟩, ⟨_, ⟨_, hO162, hF162_2⟩, (by omega)⟩, ⟨_, ⟨_, hO162, hF162_10⟩, (by omega)⟩, ⟨_, ⟨_, hO162, hF162_11⟩, (by omega)⟩, ⟨_, ⟨_, hO162, hF162_12⟩, (by omega)⟩⟩)
              · refine J_aload_n dX4_score_124 rfl ?_
                refine J_get jf_X4_22 dX4_score_125 hO_a0 hF_bc ?_
                refine J_aload_n dX4_score_128 rfl ?_
                refine J_get jf_X4_31 dX4_score_129 hO_a0 hF_lv ?_
                refine J_dup2 dX4_score_132 rfl rfl ?_
                refine Jz_iald (r := ((-2147483648), 2147483647)) jEq.rf dX4_score_133 ha_BC rfl hv_BC (by omega) (by omega) (fun y133 hf133 hl133 hh133 => ?_)
                dsimp only at hl133 hh133
                clear hl133 hh133
                refine Jz_iconst 1 dX4_score_134 (by decide) (fun y134 he134 => ?_)
                refine J_iadd dX4_score_135 ?_
                refine Jz_iastB (r := ((-2147483648), 2147483647)) jEq.rf jEq.rf hW id dX4_score_136 ha_BC rfl rfl (by omega) (by omega) (j_rng _).1 (j_rng _).2 (fun V136 G136 hW hx136 hA136 hp136 ho136 hB136 => ?_)
                obtain ⟨hN136, hv136⟩ := WT_rngI (r := ((-2147483648), 2147483647)) hW id rfl hA136
                clear hN136
                have he := he.trans (hx136.sub (jsub_of rfl))
                have hfp := hfp.trans (jfp.one hB136 (List.mem_cons_of_mem _ (List.mem_cons_of_mem _ (List.mem_cons_of_mem _ (List.mem_cons_of_mem _ List.mem_cons_self)))))
                have ha0 := ha0.mono hx136.1
                have hb_wc := hb_wc.mono hx136.1
                have hb_sq := hb_sq.mono hx136.1
                have hb_rc := hb_rc.mono hx136.1
                have hb_bc := hb_bc.mono hx136.1
                have hO_a0 := hx136.2 _ _ hO_a0 (jnot_of rfl)
                have hK_a0 := hK_a0.mono hx136.1
                have ha_RC := hx136.2 _ _ ha_RC (jnot_of rfl)
                have hA68 := hx136.2 _ _ hA68 (jnot_of rfl)
                have hA91 := hx136.2 _ _ hA91 (jnot_of rfl)
                refine J_aload_n dX4_score_137 rfl ?_
                refine J_aload_n dX4_score_138 rfl ?_
                refine J_get jf_X4_38 dX4_score_139 hO_a0 hF_tg ?_
                refine J_aload_n dX4_score_142 rfl ?_
                refine J_get jf_X4_9 dX4_score_143 hO_a0 hF_wc ?_
                refine J_aload_n dX4_score_146 rfl ?_
                refine J_get jf_X4_31 dX4_score_147 hO_a0 hF_lv ?_
                refine Jz_iald (r := ((-2147483648), 2147483647)) jEq.rf dX4_score_150 hA68 rfl hv68 (by omega) (by omega) (fun y150 hf150 hl150 hh150 => ?_)
                dsimp only at hl150 hh150
                clear hl150 hh150
                have he150 : jEq y150.toInt (y65.toInt + 1) := by rw [← hf150, hp68]; exact he67
                refine Jz_iadd jEq.rf he150 dX4_score_151 (by omega) (by omega) (fun y151 he151 => ?_)
                refine Jz_ldc 600000 jw_k_X4_115 dX4_score_152 (by decide) (fun y152 he152 => ?_)
                refine Jz_icmp_le (tgt := 161) he151 he152 dX4_score_154 (by decide) (fun c154 => ?_) (fun c154 => ?_)
                · refine Jz_iconst 0 dX4_score_161 (by decide) (fun y161 he161 => ?_)
                  refine Jz_putI hO_a0 hW id rfl jf_X4_41 jt_X4_13 he161 dX4_score_162 (by omega) (by omega) (fun _ h => ⟨nar_b (by omega) (by omega), fit_b (by omega) (by omega)⟩) (fun V162 fs162 hW hx162 hO162 hS162 hT162 hB162 => ?_)
                  have hK162 : jokO _ (jFs 2) fs162 := hW _ _ id hO162
                  have hF162_0 := (hT162 0 (by decide)).trans hF_g
                  have hF162_1 := (hT162 1 (by decide)).trans hF_R
                  have hF162_2 := (hT162 2 (by decide)).trans hF_sd
                  have hF162_10 := (hT162 10 (by decide)).trans hF_lv
                  have hF162_11 := (hT162 11 (by decide)).trans hF_cd
                  have hF162_12 := (hT162 12 (by decide)).trans hF_tg
                  have hF162_4 := (hT162 4 (by decide)).trans hF_wc
                  have hF162_5 := (hT162 5 (by decide)).trans hF_sq
                  have hF162_6 := (hT162 6 (by decide)).trans hF_rc
                  have hF162_7 := (hT162 7 (by decide)).trans hF_bc
                  have he := he.trans (hx162.sub (jsub_of rfl))
                  have hfp := hfp.trans (jfp.one hB162 List.mem_cons_self)
                  have ha0 := ha0.mono hx162.1
                  have hb_wc := hb_wc.mono hx162.1
                  have hb_sq := hb_sq.mono hx162.1
                  have hb_rc := hb_rc.mono hx162.1
                  have hb_bc := hb_bc.mono hx162.1
                  have ha_RC := hx162.2 _ _ ha_RC (jnot_of rfl)
                  have hA68 := hx162.2 _ _ hA68 (jnot_of rfl)
                  have hA91 := hx162.2 _ _ hA91 (jnot_of rfl)
                  have hA136 := hx162.2 _ _ hA136 (jnot_of rfl)
                  exact J_ret (r := none) dX4_score_165 ⟨rfl, rfl⟩ (⟨⟨hW, he, rfl⟩, ⟨G68, G91, RC, G136, y161, hA68, hA91, ha_RC, hA136, ⟨_, hO162, hS162⟩, (jsc_mk hp14 hp12 (by rw [hp68, he67.eq]; omega) hz86.eq hp91 (by first | exact Or.inl ⟨(hP99_0.elim (fun q => q.2) (fun q => absurd q.1 c102)), (hp117.trans (by rw [← hf114, show y115 = 1 from jI_inj.mp (he115.eq.trans rfl)]))⟩ | exact Or.inr ⟨(hP99_0.elim (fun q => absurd q.1 (by omega)) (fun q => q.2)), rfl⟩) (by first | exact Or.inl ⟨hp15.mp (by omega), (hp136.trans (by rw [← hf133, show y134 = 1 from jI_inj.mp (he134.eq.trans rfl)]))⟩ | exact Or.inr ⟨fun z => absurd (hp15.mpr z) (by omega), rfl⟩)), (by rw [hp68, he67.eq]; omega), (by first | (rw [he157.eq, hp68, he67.eq]; omega) | (rw [he161.eq, hp68, he67.eq]; omega)), (fun j hj => ⟨ho68 j hj, ho91 j hj, (by first | exact ho117 j hj | rfl), (by first | exact ho136 j hj | rfl)⟩)⟩, hfp, ⟨_, ⟨_, hO162, hF162_0⟩, (by omega)⟩, ⟨_, ⟨_, hO162, hF162_1⟩, (by omega)⟩, ⟨_, ⟨_, hO162, hF162_2⟩, (by omega)⟩, ⟨_, ⟨_, hO162, hF162_10⟩, (by omega)⟩, ⟨_, ⟨_, hO162, hF162_11⟩, (by omega)⟩, ⟨_, ⟨_, hO162, hF162_12⟩, (by omega)⟩⟩)
                · refine Jz_iconst 1 dX4_score_157 (by decide) (fun y157 he157 => ?_)
                  refine J_goto (tgt := 162) dX4_score_158 (by decide) ?_
                  refine Jz_putI hO_a0 hW id rfl jf_X4_41 jt_X4_13 he157 dX4_score_162 (by omega) (by omega) (fun _ h => ⟨nar_b (by omega) (by omega), fit_b (by omega) (by omega)⟩) (fun V162 fs162 hW hx162 hO162 hS162 hT162 hB162 => ?_)
                  have hK162 : jokO _ (jFs 2) fs162 := hW _ _ id hO162
                  have hF162_0 := (hT162 0 (by decide)).trans hF_g
                  have hF162_1 := (hT162 1 (by decide)).trans hF_R
                  have hF162_2 := (hT162 2 (by decide)).trans hF_sd
                  have hF162_10 := (hT162 10 (by decide)).trans hF_lv
                  have hF162_11 := (hT162 11 (by decide)).trans hF_cd
                  have hF162_12 := (hT162 12 (by decide)).trans hF_tg
                  have hF162_4 := (hT162 4 (by decide)).trans hF_wc
                  have hF162_5 := (hT162 5 (by decide)).trans hF_sq
                  have hF162_6 := (hT162 6 (by decide)).trans hF_rc
                  have hF162_7 := (hT162 7 (by decide)).trans hF_bc
                  have he := he.trans (hx162.sub (jsub_of rfl))
                  have hfp := hfp.trans (jfp.one hB162 List.mem_cons_self)
                  have ha0 := ha0.mono hx162.1
                  have hb_wc := hb_wc.mono hx162.1
                  have hb_sq := hb_sq.mono hx162.1
                  have hb_rc := hb_rc.mono hx162.1
                  have hb_bc := hb_bc.mono hx162.1
                  have ha_RC := hx162.2 _ _ ha_RC (jnot_of rfl)
                  have hA68 := hx162.2 _ _ hA68 (jnot_of rfl)
                  have hA91 := hx162.2 _ _ hA91 (jnot_of rfl)
                  have hA136 := hx162.2 _ _ hA136 (jnot_of rfl)
                  exact J_ret (r := none) dX4_score_165 ⟨rfl, rfl⟩ (⟨⟨hW, he, rfl⟩, ⟨G68, G91, RC, G136, y157, hA68, hA91, ha_RC, hA136, ⟨_, hO162, hS162⟩, (jsc_mk hp14 hp12 (by rw [hp68, he67.eq]; omega) hz86.eq hp91 (by first | exact Or.inl ⟨(hP99_0.elim (fun q => q.2) (fun q => absurd q.1 c102)), (hp117.trans (by rw [← hf114, show y115 = 1 from jI_inj.mp (he115.eq.trans rfl)]))⟩ | exact Or.inr ⟨(hP99_0.elim (fun q => absurd q.1 (by omega)) (fun q => q.2)), rfl⟩) (by first | exact Or.inl ⟨hp15.mp (by omega), (hp136.trans (by rw [← hf133, show y134 = 1 from jI_inj.mp (he134.eq.trans rfl)]))⟩ | exact Or.inr ⟨fun z => absurd (hp15.mpr z) (by omega), rfl⟩)), (by rw [hp68, he67.eq]; omega), (by first | (rw [he157.eq, hp68, he67.eq]; omega) | (rw [he161.eq, hp68, he67.eq]; omega)), (fun j hj => ⟨ho68 j hj, ho91 j hj, (by first | exact ho117 j hj | rfl), (by first | exact ho136 j hj | rfl)⟩)⟩, hfp, ⟨_, ⟨_, hO162, hF162_0⟩, (by omega)⟩, ⟨_, ⟨_, hO162, hF162_1⟩, (by omega)⟩, ⟨_, ⟨_, hO162, hF162_2⟩, (by omega)⟩, ⟨_, ⟨_, hO162, hF162_10⟩, (by omega)⟩, ⟨_, ⟨_, hO162, hF162_11⟩, (by omega)⟩, ⟨_, ⟨_, hO162, hF162_12⟩, (by omega)⟩⟩)
            · refine J_aload_n dX4_score_105 rfl ?_
              refine J_get jf_X4_19 dX4_score_106 hO_a0 hF_rc ?_
              refine J_aload_n dX4_score_109 rfl ?_
              refine J_get jf_X4_31 dX4_score_110 hO_a0 hF_lv ?_
              refine J_dup2 dX4_score_113 rfl rfl ?_
              refine Jz_iald (r := ((-2147483648), 2147483647)) jEq.rf dX4_score_114 ha_RC rfl hv_RC (by omega) (by omega) (fun y114 hf114 hl114 hh114 => ?_)
              dsimp only at hl114 hh114
              clear hl114 hh114
              refine Jz_iconst 1 dX4_score_115 (by decide) (fun y115 he115 => ?_)
              refine J_iadd dX4_score_116 ?_
              refine Jz_iastB (r := ((-2147483648), 2147483647)) jEq.rf jEq.rf hW id dX4_score_117 ha_RC rfl rfl (by omega) (by omega) (j_rng _).1 (j_rng _).2 (fun V117 G117 hW hx117 hA117 hp117 ho117 hB117 => ?_)
              obtain ⟨hN117, hv117⟩ := WT_rngI (r := ((-2147483648), 2147483647)) hW id rfl hA117
              clear hN117
              have he := he.trans (hx117.sub (jsub_of rfl))
              have hfp := hfp.trans (jfp.one hB117 (List.mem_cons_of_mem _ (List.mem_cons_of_mem _ (List.mem_cons_of_mem _ List.mem_cons_self))))
              have ha0 := ha0.mono hx117.1
              have hb_wc := hb_wc.mono hx117.1
              have hb_sq := hb_sq.mono hx117.1
              have hb_rc := hb_rc.mono hx117.1
              have hb_bc := hb_bc.mono hx117.1
              have hO_a0 := hx117.2 _ _ hO_a0 (jnot_of rfl)
              have hK_a0 := hK_a0.mono hx117.1
              have ha_BC := hx117.2 _ _ ha_BC (jnot_of rfl)
              have hA68 := hx117.2 _ _ hA68 (jnot_of rfl)
              have hA91 := hx117.2 _ _ hA91 (jnot_of rfl)
              refine J_iload dX4_score_118 rfl ?_
              refine J_iload_n dX4_score_120 rfl ?_
              refine Jz_icmp_ne (tgt := 137) jEq.rf jEq.rf dX4_score_121 (by decide) (fun c121 => ?_) (fun c121 => ?_)
              · refine J_aload_n dX4_score_137 rfl ?_
                refine J_aload_n dX4_score_138 rfl ?_
                refine J_get jf_X4_38 dX4_score_139 hO_a0 hF_tg ?_
                refine J_aload_n dX4_score_142 rfl ?_
                refine J_get jf_X4_9 dX4_score_143 hO_a0 hF_wc ?_
                refine J_aload_n dX4_score_146 rfl ?_
                refine J_get jf_X4_31 dX4_score_147 hO_a0 hF_lv ?_
                refine Jz_iald (r := ((-2147483648), 2147483647)) jEq.rf dX4_score_150 hA68 rfl hv68 (by omega) (by omega) (fun y150 hf150 hl150 hh150 => ?_)
                dsimp only at hl150 hh150
                clear hl150 hh150
                have he150 : jEq y150.toInt (y65.toInt + 1) := by rw [← hf150, hp68]; exact he67
                refine Jz_iadd jEq.rf he150 dX4_score_151 (by omega) (by omega) (fun y151 he151 => ?_)
                refine Jz_ldc 600000 jw_k_X4_115 dX4_score_152 (by decide) (fun y152 he152 => ?_)
                refine Jz_icmp_le (tgt := 161) he151 he152 dX4_score_154 (by decide) (fun c154 => ?_) (fun c154 => ?_)
                · refine Jz_iconst 0 dX4_score_161 (by decide) (fun y161 he161 => ?_)
                  refine Jz_putI hO_a0 hW id rfl jf_X4_41 jt_X4_13 he161 dX4_score_162 (by omega) (by omega) (fun _ h => ⟨nar_b (by omega) (by omega), fit_b (by omega) (by omega)⟩) (fun V162 fs162 hW hx162 hO162 hS162 hT162 hB162 => ?_)
                  have hK162 : jokO _ (jFs 2) fs162 := hW _ _ id hO162
                  have hF162_0 := (hT162 0 (by decide)).trans hF_g
                  have hF162_1 := (hT162 1 (by decide)).trans hF_R
                  have hF162_2 := (hT162 2 (by decide)).trans hF_sd
                  have hF162_10 := (hT162 10 (by decide)).trans hF_lv
                  have hF162_11 := (hT162 11 (by decide)).trans hF_cd
                  have hF162_12 := (hT162 12 (by decide)).trans hF_tg
                  have hF162_4 := (hT162 4 (by decide)).trans hF_wc
                  have hF162_5 := (hT162 5 (by decide)).trans hF_sq
                  have hF162_6 := (hT162 6 (by decide)).trans hF_rc
                  have hF162_7 := (hT162 7 (by decide)).trans hF_bc
                  have he := he.trans (hx162.sub (jsub_of rfl))
                  have hfp := hfp.trans (jfp.one hB162 List.mem_cons_self)
                  have ha0 := ha0.mono hx162.1
                  have hb_wc := hb_wc.mono hx162.1
                  have hb_sq := hb_sq.mono hx162.1
                  have hb_rc := hb_rc.mono hx162.1
                  have hb_bc := hb_bc.mono hx162.1
                  have ha_BC := hx162.2 _ _ ha_BC (jnot_of rfl)
                  have hA68 := hx162.2 _ _ hA68 (jnot_of rfl)
                  have hA91 := hx162.2 _ _ hA91 (jnot_of rfl)
                  have hA117 := hx162.2 _ _ hA117 (jnot_of rfl)
                  exact J_ret (r := none) dX4_score_165 ⟨rfl, rfl⟩ (⟨⟨hW, he, rfl⟩, ⟨G68, G91, G117, BC, y161, hA68, hA91, hA117, ha_BC, ⟨_, hO162, hS162⟩, (jsc_mk hp14 hp12 (by rw [hp68, he67.eq]; omega) hz86.eq hp91 (by first | exact Or.inl ⟨(hP99_0.elim (fun q => q.2) (fun q => absurd q.1 c102)), (hp117.trans (by rw [← hf114, show y115 = 1 from jI_inj.mp (he115.eq.trans rfl)]))⟩ | exact Or.inr ⟨(hP99_0.elim (fun q => absurd q.1 (by omega)) (fun q => q.2)), rfl⟩) (by first | exact Or.inl ⟨hp15.mp (by omega), (hp136.trans (by rw [← hf133, show y134 = 1 from jI_inj.mp (he134.eq.trans rfl)]))⟩ | exact Or.inr ⟨fun z => absurd (hp15.mpr z) (by omega), rfl⟩)), (by rw [hp68, he67.eq]; omega), (by first | (rw [he157.eq, hp68, he67.eq]; omega) | (rw [he161.eq, hp68, he67.eq]; omega)), (fun j hj => ⟨ho68 j hj, ho91 j hj, (by first | exact ho117 j hj | rfl), (by first | exact ho136 j hj | rfl)⟩)⟩, hfp, ⟨_, ⟨_, hO162, hF162_0⟩, (by omega)⟩, ⟨_, ⟨_, hO162, hF162_1⟩, (by omega)⟩, ⟨_, ⟨_, hO162, hF162_2⟩, (by omega)⟩, ⟨_, ⟨_, hO162, hF162_10⟩, (by omega)⟩, ⟨_, ⟨_, hO162, hF162_11⟩, (by omega)⟩, ⟨_, ⟨_, hO162, hF162_12⟩, (by omega)⟩⟩)
                · refine Jz_iconst 1 dX4_score_157 (by decide) (fun y157 he157 => ?_)
                  refine J_goto (tgt := 162) dX4_score_158 (by decide) ?_
                  refine Jz_putI hO_a0 hW id rfl jf_X4_41 jt_X4_13 he157 dX4_score_162 (by omega) (by omega) (fun _ h => ⟨nar_b (by omega) (by omega), fit_b (by omega) (by omega)⟩) (fun V162 fs162 hW hx162 hO162 hS162 hT162 hB162 => ?_)
                  have hK162 : jokO _ (jFs 2) fs162 := hW _ _ id hO162
                  have hF162_0 := (hT162 0 (by decide)).trans hF_g
                  have hF162_1 := (hT162 1 (by decide)).trans hF_R
                  have hF162_2 := (hT162 2 (by decide)).trans hF_sd
                  have hF162_10 := (hT162 10 (by decide)).trans hF_lv
                  have hF162_11 := (hT162 11 (by decide)).trans hF_cd
                  have hF162_12 := (hT162 12 (by decide)).trans hF_tg
                  have hF162_4 := (hT162 4 (by decide)).trans hF_wc
                  have hF162_5 := (hT162 5 (by decide)).trans hF_sq
                  have hF162_6 := (hT162 6 (by decide)).trans hF_rc
                  have hF162_7 := (hT162 7 (by decide)).trans hF_bc
                  have he := he.trans (hx162.sub (jsub_of rfl))
                  have hfp := hfp.trans (jfp.one hB162 List.mem_cons_self)
                  have ha0 := ha0.mono hx162.1
                  have hb_wc := hb_wc.mono hx162.1
                  have hb_sq := hb_sq.mono hx162.1
                  have hb_rc := hb_rc.mono hx162.1
                  have hb_bc := hb_bc.mono hx162.1
                  have ha_BC := hx162.2 _ _ ha_BC (jnot_of rfl)
                  have hA68 := hx162.2 _ _ hA68 (jnot_of rfl)
                  have hA91 := hx162.2 _ _ hA91 (jnot_of rfl)
                  have hA117 := hx162.2 _ _ hA117 (jnot_of rfl)
                  exact J_ret (r := none) dX4_score_165 ⟨rfl, rfl⟩ (⟨⟨hW, he, rfl⟩, ⟨G68, G91, G117, BC, y157, hA68, hA91, hA117, ha_BC, ⟨_, hO162, hS162⟩, (jsc_mk hp14 hp12 (by rw [hp68, he67.eq]; omega) hz86.eq hp91 (by first | exact Or.inl ⟨(hP99_0.elim (fun q => q.2) (fun q => absurd q.1 c102)), (hp117.trans (by rw [← hf114, show y115 = 1 from jI_inj.mp (he115.eq.trans rfl)]))⟩ | exact Or.inr ⟨(hP99_0.elim (fun q => absurd q.1 (by omega)) (fun q => q.2)), rfl⟩) (by first | exact Or.inl ⟨hp15.mp (by omega), (hp136.trans (by rw [← hf133, show y134 = 1 from jI_inj.mp (he134.eq.trans rfl)]))⟩ | exact Or.inr ⟨fun z => absurd (hp15.mpr z) (by omega), rfl⟩)), (by rw [hp68, he67.eq]; omega), (by first | (rw [he157.eq, hp68, he67.eq]; omega) | (rw [he161.eq, hp68, he67.eq]; omega)), (fun j hj => ⟨ho68 j hj, ho91 j hj, (by first | exact ho117 j hj | rfl), (by first | exact ho136 j hj | rfl)⟩)⟩, hfp, ⟨_, ⟨_, hO162, hF162_0⟩, (by omega)⟩, ⟨_, ⟨_, hO162, hF162_1⟩, (by omega)⟩, ⟨_, ⟨_, hO162, hF162_2⟩, (by omega)⟩, ⟨_, ⟨_, hO162, hF162_10⟩, (by omega)⟩, ⟨_, ⟨_, hO162, hF162_11⟩, (by omega)⟩, ⟨_, ⟨_, hO162, hF162_12⟩, (by omega)⟩⟩)
              · refine J_aload_n dX4_score_124 rfl ?_
                refine J_get jf_X4_22 dX4_score_125 hO_a0 hF_bc ?_
                refine J_aload_n dX4_score_128 rfl ?_
                refine J_get jf_X4_31 dX4_score_129 hO_a0 hF_lv ?_
                refine J_dup2 dX4_score_132 rfl rfl ?_
                refine Jz_iald (r := ((-2147483648), 2147483647)) jEq.rf dX4_score_133 ha_BC rfl hv_BC (by omega) (by omega) (fun y133 hf133 hl133 hh133 => ?_)
                dsimp only at hl133 hh133
                clear hl133 hh133
                refine Jz_iconst 1 dX4_score_134 (by decide) (fun y134 he134 => ?_)
                refine J_iadd dX4_score_135 ?_
                refine Jz_iastB (r := ((-2147483648), 2147483647)) jEq.rf jEq.rf hW id dX4_score_136 ha_BC rfl rfl (by omega) (by omega) (j_rng _).1 (j_rng _).2 (fun V136 G136 hW hx136 hA136 hp136 ho136 hB136 => ?_)
                obtain ⟨hN136, hv136⟩ := WT_rngI (r := ((-2147483648), 2147483647)) hW id rfl hA136
                clear hN136
                have he := he.trans (hx136.sub (jsub_of rfl))
                have hfp := hfp.trans (jfp.one hB136 (List.mem_cons_of_mem _ (List.mem_cons_of_mem _ (List.mem_cons_of_mem _ (List.mem_cons_of_mem _ List.mem_cons_self)))))
                have ha0 := ha0.mono hx136.1
                have hb_wc := hb_wc.mono hx136.1
                have hb_sq := hb_sq.mono hx136.1
                have hb_rc := hb_rc.mono hx136.1
                have hb_bc := hb_bc.mono hx136.1
                have hO_a0 := hx136.2 _ _ hO_a0 (jnot_of rfl)
                have hK_a0 := hK_a0.mono hx136.1
                have hA68 := hx136.2 _ _ hA68 (jnot_of rfl)
                have hA91 := hx136.2 _ _ hA91 (jnot_of rfl)
                have hA117 := hx136.2 _ _ hA117 (jnot_of rfl)
                refine J_aload_n dX4_score_137 rfl ?_
                refine J_aload_n dX4_score_138 rfl ?_
                refine J_get jf_X4_38 dX4_score_139 hO_a0 hF_tg ?_
                refine J_aload_n dX4_score_142 rfl ?_
                refine J_get jf_X4_9 dX4_score_143 hO_a0 hF_wc ?_
                refine J_aload_n dX4_score_146 rfl ?_
                refine J_get jf_X4_31 dX4_score_147 hO_a0 hF_lv ?_
                refine Jz_iald (r := ((-2147483648), 2147483647)) jEq.rf dX4_score_150 hA68 rfl hv68 (by omega) (by omega) (fun y150 hf150 hl150 hh150 => ?_)
                dsimp only at hl150 hh150
                clear hl150 hh150
                have he150 : jEq y150.toInt (y65.toInt + 1) := by rw [← hf150, hp68]; exact he67
                refine Jz_iadd jEq.rf he150 dX4_score_151 (by omega) (by omega) (fun y151 he151 => ?_)
                refine Jz_ldc 600000 jw_k_X4_115 dX4_score_152 (by decide) (fun y152 he152 => ?_)
                refine Jz_icmp_le (tgt := 161) he151 he152 dX4_score_154 (by decide) (fun c154 => ?_) (fun c154 => ?_)
                · refine Jz_iconst 0 dX4_score_161 (by decide) (fun y161 he161 => ?_)
                  refine Jz_putI hO_a0 hW id rfl jf_X4_41 jt_X4_13 he161 dX4_score_162 (by omega) (by omega) (fun _ h => ⟨nar_b (by omega) (by omega), fit_b (by omega) (by omega)⟩) (fun V162 fs162 hW hx162 hO162 hS162 hT162 hB162 => ?_)
                  have hK162 : jokO _ (jFs 2) fs162 := hW _ _ id hO162
                  have hF162_0 := (hT162 0 (by decide)).trans hF_g
                  have hF162_1 := (hT162 1 (by decide)).trans hF_R
                  have hF162_2 := (hT162 2 (by decide)).trans hF_sd
                  have hF162_10 := (hT162 10 (by decide)).trans hF_lv
                  have hF162_11 := (hT162 11 (by decide)).trans hF_cd
                  have hF162_12 := (hT162 12 (by decide)).trans hF_tg
                  have hF162_4 := (hT162 4 (by decide)).trans hF_wc
                  have hF162_5 := (hT162 5 (by decide)).trans hF_sq
                  have hF162_6 := (hT162 6 (by decide)).trans hF_rc
                  have hF162_7 := (hT162 7 (by decide)).trans hF_bc
                  have he := he.trans (hx162.sub (jsub_of rfl))
                  have hfp := hfp.trans (jfp.one hB162 List.mem_cons_self)
                  have ha0 := ha0.mono hx162.1
                  have hb_wc := hb_wc.mono hx162.1
                  have hb_sq := hb_sq.mono hx162.1
                  have hb_rc := hb_rc.mono hx162.1
                  have hb_bc := hb_bc.mono hx162.1
                  have hA68 := hx162.2 _ _ hA68 (jnot_of rfl)
                  have hA91 := hx162.2 _ _ hA91 (jnot_of rfl)
                  have hA117 := hx162.2 _ _ hA117 (jnot_of rfl)
                  have hA136 := hx162.2 _ _ hA136 (jnot_of rfl)
                  exact J_ret (r := none) dX4_score_165 ⟨rfl, rfl⟩ (⟨⟨hW, he, rfl⟩, ⟨G68, G91, G117, G136, y161, hA68, hA91, hA117, hA136, ⟨_, hO162, hS162⟩, (jsc_mk hp14 hp12 (by rw [hp68, he67.eq]; omega) hz86.eq hp91 (by first | exact Or.inl ⟨(hP99_0.elim (fun q => q.2) (fun q => absurd q.1 c102)), (hp117.trans (by rw [← hf114, show y115 = 1 from jI_inj.mp (he115.eq.trans rfl)]))⟩ | exact Or.inr ⟨(hP99_0.elim (fun q => absurd q.1 (by omega)) (fun q => q.2)), rfl⟩) (by first | exact Or.inl ⟨hp15.mp (by omega), (hp136.trans (by rw [← hf133, show y134 = 1 from jI_inj.mp (he134.eq.trans rfl)]))⟩ | exact Or.inr ⟨fun z => absurd (hp15.mpr z) (by omega), rfl⟩)), (by rw [hp68, he67.eq]; omega), (by first | (rw [he157.eq, hp68, he67.eq]; omega) | (rw [he161.eq, hp68, he67.eq]; omega)), (fun j hj => ⟨ho68 j hj, ho91 j hj, (by first | exact ho117 j hj | rfl), (by first | exact ho136 j hj | rfl)⟩)⟩, hfp, ⟨_, ⟨_, hO162, hF162_0⟩, (by omega)⟩, ⟨_, ⟨_, hO162, hF162_1⟩, (by omega)⟩, ⟨_, ⟨_, hO162, hF162_2⟩, (by omega)⟩, ⟨_, ⟨_, hO162, hF162_10⟩, (by omega)⟩, ⟨_, ⟨_, hO162, hF162_11⟩, (by omega)⟩, ⟨_, ⟨_, hO162, hF162_12⟩, (by omega)⟩⟩)
                · refine Jz_iconst 1 dX4_score_157 (by decide) (fun y157 he157 => ?_)
                  refine J_goto (tgt := 162) dX4_score_158 (by decide) ?_
                  refine Jz_putI hO_a0 hW id rfl jf_X4_41 jt_X4_13 he157 dX4_score_162 (by omega) (by omega) (fun _ h => ⟨nar_b (by omega) (by omega), fit_b (by omega) (by omega)⟩) (fun V162 fs162 hW hx162 hO162 hS162 hT162 hB162 => ?_)
                  have hK162 : jokO _ (jFs 2) fs162 := hW _ _ id hO162
                  have hF162_0 := (hT162 0 (by decide)).trans hF_g
                  have hF162_1 := (hT162 1 (by decide)).trans hF_R
                  have hF162_2 := (hT162 2 (by decide)).trans hF_sd
                  have hF162_10 := (hT162 10 (by decide)).trans hF_lv
                  have hF162_11 := (hT162 11 (by decide)).trans hF_cd
                  have hF162_12 := (hT162 12 (by decide)).trans hF_tg
                  have hF162_4 := (hT162 4 (by decide)).trans hF_wc
                  have hF162_5 := (hT162 5 (by decide)).trans hF_sq
                  have hF162_6 := (hT162 6 (by decide)).trans hF_rc
                  have hF162_7 := (hT162 7 (by decide)).trans hF_bc
                  have he := he.trans (hx162.sub (jsub_of rfl))
                  have hfp := hfp.trans (jfp.one hB162 List.mem_cons_self)
                  have ha0 := ha0.mono hx162.1
                  have hb_wc := hb_wc.mono hx162.1
                  have hb_sq := hb_sq.mono hx162.1
                  have hb_rc := hb_rc.mono hx162.1
                  have hb_bc := hb_bc.mono hx162.1
                  have hA68 := hx162.2 _ _ hA68 (jnot_of rfl)
                  have hA91 := hx162.2 _ _ hA91 (jnot_of rfl)
                  have hA117 := hx162.2 _ _ hA117 (jnot_of rfl)
                  have hA136 := hx162.2 _ _ hA136 (jnot_of rfl)
                  exact J_ret (r := none) dX4_score_165 ⟨rfl, rfl⟩ (⟨⟨hW, he, rfl⟩, ⟨G68, G91, G117, G136, y157, hA68, hA91, hA117, hA136, ⟨_, hO162, hS162⟩, (jsc_mk hp14 hp12 (by rw [hp68, he67.eq]; omega) hz86.eq hp91 (by first | exact Or.inl ⟨(hP99_0.elim (fun q => q.2) (fun q => absurd q.1 c102)), (hp117.trans (by rw [← hf114, show y115 = 1 from jI_inj.mp (he115.eq.trans rfl)]))⟩ | exact Or.inr ⟨(hP99_0.elim (fun q => absurd q.1 (by omega)) (fun q => q.2)), rfl⟩) (by first | exact Or.inl ⟨hp15.mp (by omega), (hp136.trans (by rw [← hf133, show y134 = 1 from jI_inj.mp (he134.eq.trans rfl)]))⟩ | exact Or.inr ⟨fun z => absurd (hp15.mpr z) (by omega), rfl⟩)), (by rw [hp68, he67.eq]; omega), (by first | (rw [he157.eq, hp68, he67.eq]; omega) | (rw [he161.eq, hp68, he67.eq]; omega)), (fun j hj => ⟨ho68 j hj, ho91 j hj, (by first | exact ho117 j hj | rfl), (by first | exact ho136 j hj | rfl)⟩)⟩, hfp, ⟨_, ⟨_, hO162, hF162_0⟩, (by omega)⟩, ⟨_, ⟨_, hO162, hF162_1⟩, (by omega)⟩, ⟨_, ⟨_, hO162, hF162_2⟩, (by omega)⟩, ⟨_, ⟨_, hO162, hF162_10⟩, (by omega)⟩, ⟨_, ⟨_, hO162, hF162_11⟩, (by omega)⟩, ⟨_, ⟨_, hO162, hF162_12⟩, (by omega)⟩⟩)
          · exact False.elim (by omega)
