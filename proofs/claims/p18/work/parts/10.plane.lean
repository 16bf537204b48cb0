set_option maxRecDepth 100000 in
set_option maxHeartbeats 4000000 in
theorem w_X2_numberOf {tS : jTS} (d : Nat) (V0 : jH) (x0 : Int32) (x1 : Int32)  (hd : 0 ≤ d)    : jTot tS mX2_numberOf d [.int x0, .int x1] V0 0 0 (fun r V => rN r V ∧ V = V0) := by
  refine jTot.of_J [some (.int x0), some (.int x1)] moX2_numberOf (Nat.le_of_ble_eq_true rfl) rfl ?_
  refine J_bipush (v := 9) dX2_numberOf_0 (by decide) ?_
  refine J_iload_n dX2_numberOf_2 rfl ?_
  refine J_iadd dX2_numberOf_3 ?_
  refine J_bipush (v := 8) dX2_numberOf_4 (by decide) ?_
  refine J_iload_n dX2_numberOf_6 rfl ?_
  refine J_imul dX2_numberOf_7 ?_
  refine J_iadd dX2_numberOf_8 ?_
  exact J_ret (r := some (.int _)) dX2_numberOf_9 ⟨rfl, _, rfl, rfl⟩ (⟨rN_of _, rfl⟩)
set_option maxRecDepth 100000 in
set_option maxHeartbeats 4000000 in
theorem w_X2_bitOf {tS : jTS} (d : Nat) (V0 : jH) (x0 : Int32) (x1 : Int32)  (hd : 1 ≤ d)    : jTot tS mX2_bitOf d [.int x0, .int x1] V0 0 0 (fun r V => rL r V ∧ V = V0) := by
  refine jTot.of_J [some (.int x0), some (.int x1)] moX2_bitOf (Nat.le_of_ble_eq_true rfl) rfl ?_
  refine J_lconst (v := 1) dX2_bitOf_0 rfl ?_
  refine J_iload_n dX2_bitOf_1 rfl ?_
  refine J_iload_n dX2_bitOf_2 rfl ?_
  refine J_callS2 moX2_numberOf jw_ml_X2_50 jw_st_X2_numberOf dX2_bitOf_3 (w_X2_numberOf (d - 1) _ _ _ (by omega)    ) (by omega) (Nat.zero_le _) (Nat.zero_le _) (Nat.le_of_ble_eq_true rfl) (fun r3 V3 h3 => ?_)
  obtain ⟨⟨y3, rfl, hl3, hh3⟩, hE3⟩ := h3
  have hE3 := hE3.symm
  subst hE3
  refine J_lshl dX2_bitOf_6 rfl ?_
  exact J_ret (r := some (.long _)) dX2_bitOf_7 ⟨rfl, rfl⟩ (⟨⟨_, rfl⟩, rfl⟩)
set_option maxRecDepth 100000 in
set_option maxHeartbeats 4000000 in
theorem w_X2_score {tS : jTS} (d : Nat) (V0 : jH) (a0 : Nat) (x1 : Int32) (x2 : Int32)  (hd : 1 ≤ d) (hW : WT V0) (ha0 : jis V0 (.inr 0) a0)  : jTot tS mX2_score d [.ref a0, .int x1, .int x2] V0 0 0 (fun r V => (jPost [.inr 0, .inl 12] V0 rV) r V ∧ jkc 0 [1, 2, 3] V0 V) := by
  refine jTot.of_J [some (.ref a0), some (.int x1), some (.int x2)] moX2_score (Nat.le_of_ble_eq_true rfl) rfl ?_
  have he : jeff [.inr 0, .inl 12] V0 V0 := jeff.refl _ _
  have hkp : jkc 0 [1, 2, 3] V0 V0 := jkc.rf
  refine J_aload_n dX2_score_0 rfl ?_
  refine J_dup dX2_score_1 rfl ?_
  obtain ⟨fs2, hO2, hK2⟩ := WT_obj hW id ha0
  obtain ⟨w2, hF2, y2, rfl, hl2, hh2⟩ := hK2.2 5 (.inl ((-2147483648), 2147483647)) rfl
  dsimp only at hl2 hh2
  refine J_get jf_X2_29 dX2_score_2 hO2 hF2 ?_
  refine J_iconst (v := 1) dX2_score_5 (by decide) ?_
  refine J_iadd dX2_score_6 ?_
  refine Jk_putI hW id ha0 rfl jf_X2_29 jt_X2_5 dX2_score_7 (j_rng _).1 (j_rng _).2 rfl rfl (fun V7 hW hx7 hk7 => ?_)
  have hkp := hkp.trans (hk7 _ _ (by decide))
  have he := he.trans (hx7.sub (jsub_of rfl))
  have ha0 := ha0.mono hx7.1
  refine J_iload_n dX2_score_10 rfl ?_
  refine J_if_eq (tgt := 24) dX2_score_11 (by decide) (fun c11 => ?_) (fun c11 => ?_)
  · refine J_aload_n dX2_score_24 rfl ?_
    obtain ⟨fs25, hO25, hK25⟩ := WT_obj hW id ha0
    obtain ⟨w25, hF25, b25, rfl, hb25⟩ := hK25.2 0 (.inr (some (.inl 12))) rfl
    refine J_get jf_X2_11 dX2_score_25 hO25 hF25 ?_
    refine J_iload_n dX2_score_28 rfl ?_
    refine J_aload_n dX2_score_29 rfl ?_
    refine J_get jf_X2_11 dX2_score_30 hO25 hF25 ?_
    refine J_iload_n dX2_score_33 rfl ?_
    refine J_callSN2 moX6_cell (host := "WalkGrounds") (List.mem_of_getElem? (i := 8) rfl) jw_st_X6_cell dX2_score_34 (w_X6_cell (d - 1) _ _ _ hW hb25 rfl rfl) (by omega) (Nat.zero_le _) (Nat.zero_le _) (Nat.le_of_ble_eq_true rfl) (fun r34 V34 h34 => ?_)
    obtain ⟨⟨y34, rfl, hl34, hh34⟩, hE34⟩ := h34
    have hE34 := hE34.symm
    subst hE34
    refine J_iconst (v := 1) dX2_score_37 (by decide) ?_
    refine J_iadd dX2_score_38 ?_
    refine J_callSN3 moX6_put (host := "WalkGrounds") (List.mem_of_getElem? (i := 9) rfl) jw_st_X6_put dX2_score_39 (w_X6_put (d - 1) _ _ _ _ hW hb25 rfl rfl) (by omega) (Nat.zero_le _) (Nat.zero_le _) (Nat.le_of_ble_eq_true rfl) (fun r39 V39 h39 => ?_)
    obtain ⟨hW, hx39, hr39⟩ := h39
    have hkp := hkp.trans (jkc.of hx39 (jnot_of rfl))
    have he := he.trans (hx39.sub (jsub_of rfl))
    have ha0 := ha0.mono hx39.1
    have hb25 := hb25.mono hx39.1
    have hO25 := hx39.2 _ _ hO25 (jnot_of rfl)
    have hK25 := hK25.mono hx39.1
    cases hr39
    exact J_ret (r := none) dX2_score_42 ⟨rfl, rfl⟩ (⟨⟨hW, he, rfl⟩, hkp⟩)
  · refine J_aload_n dX2_score_14 rfl ?_
    refine J_dup dX2_score_15 rfl ?_
    obtain ⟨fs16, hO16, hK16⟩ := WT_obj hW id ha0
    obtain ⟨w16, hF16, y16, rfl, hl16, hh16⟩ := hK16.2 6 (.inl ((-2147483648), 2147483647)) rfl
    dsimp only at hl16 hh16
    refine J_get jf_X2_32 dX2_score_16 hO16 hF16 ?_
    refine J_iconst (v := 1) dX2_score_19 (by decide) ?_
    refine J_iadd dX2_score_20 ?_
    refine Jk_putI hW id ha0 rfl jf_X2_32 jt_X2_6 dX2_score_21 (j_rng _).1 (j_rng _).2 rfl rfl (fun V21 hW hx21 hk21 => ?_)
    have hkp := hkp.trans (hk21 _ _ (by decide))
    have he := he.trans (hx21.sub (jsub_of rfl))
    have ha0 := ha0.mono hx21.1
    refine J_aload_n dX2_score_24 rfl ?_
    obtain ⟨fs25, hO25, hK25⟩ := WT_obj hW id ha0
    obtain ⟨w25, hF25, b25, rfl, hb25⟩ := hK25.2 0 (.inr (some (.inl 12))) rfl
    refine J_get jf_X2_11 dX2_score_25 hO25 hF25 ?_
    refine J_iload_n dX2_score_28 rfl ?_
    refine J_aload_n dX2_score_29 rfl ?_
    refine J_get jf_X2_11 dX2_score_30 hO25 hF25 ?_
    refine J_iload_n dX2_score_33 rfl ?_
    refine J_callSN2 moX6_cell (host := "WalkGrounds") (List.mem_of_getElem? (i := 8) rfl) jw_st_X6_cell dX2_score_34 (w_X6_cell (d - 1) _ _ _ hW hb25 rfl rfl) (by omega) (Nat.zero_le _) (Nat.zero_le _) (Nat.le_of_ble_eq_true rfl) (fun r34 V34 h34 => ?_)
    obtain ⟨⟨y34, rfl, hl34, hh34⟩, hE34⟩ := h34
    have hE34 := hE34.symm
    subst hE34
    refine J_iconst (v := 1) dX2_score_37 (by decide) ?_
    refine J_iadd dX2_score_38 ?_
    refine J_callSN3 moX6_put (host := "WalkGrounds") (List.mem_of_getElem? (i := 9) rfl) jw_st_X6_put dX2_score_39 (w_X6_put (d - 1) _ _ _ _ hW hb25 rfl rfl) (by omega) (Nat.zero_le _) (Nat.zero_le _) (Nat.le_of_ble_eq_true rfl) (fun r39 V39 h39 => ?_)
    obtain ⟨hW, hx39, hr39⟩ := h39
    have hkp := hkp.trans (jkc.of hx39 (jnot_of rfl))
    have he := he.trans (hx39.sub (jsub_of rfl))
    have ha0 := ha0.mono hx39.1
    have hb25 := hb25.mono hx39.1
    have hO25 := hx39.2 _ _ hO25 (jnot_of rfl)
    have hK25 := hK25.mono hx39.1
    cases hr39
    exact J_ret (r := none) dX2_score_42 ⟨rfl, rfl⟩ (⟨⟨hW, he, rfl⟩, hkp⟩)
set_option maxRecDepth 100000 in
set_option maxHeartbeats 4000000 in
theorem w_X2_extend {tS : jTS} : ∀ (K d : Nat) (V0 : jH) (a0 : Nat) (x1 : Int32) (x2 : Int32) (x3 : Int64), 2 + K ≤ d → WT V0 → jis V0 (.inr 0) a0 → 0 ≤ x1.toInt → x1.toInt ≤ 36 → (37 - x1.toInt).toNat < K → jTot tS mX2_extend d [.ref a0, .int x1, .int x2, .long x3] V0 0 0 (fun r V => (jPost [.inr 0, .inl 12] V0 rV) r V ∧ jkc 0 [1, 2, 3] V0 V) := by
  intro K
  induction K with
  | zero => intro d V0 a0 x1 x2 x3 hd hW ha0 hl1 hh1 hrk; exact absurd hrk (Nat.not_lt_zero _)
  | succ K IH =>
  intro d V0 a0 x1 x2 x3 hd hW ha0 hl1 hh1 hrk
  refine jTot.of_J [some (.ref a0), some (.int x1), some (.int x2), some (.long x3), none, none, none, none, none, none, none, none, none] moX2_extend (Nat.le_of_ble_eq_true rfl) rfl ?_
  have he : jeff [.inr 0, .inl 12] V0 V0 := jeff.refl _ _
  have hkp : jkc 0 [1, 2, 3] V0 V0 := jkc.rf
  refine J_iload_n dX2_extend_0 rfl ?_
  refine J_bipush (v := 36) dX2_extend_1 (by decide) ?_
  refine J_icmp_lt (tgt := 7) dX2_extend_3 (by decide) (fun c3 => ?_) (fun c3 => ?_)
  · refine J_aload_n dX2_extend_7 rfl ?_
    obtain ⟨fs8, hO8, hK8⟩ := WT_obj hW id ha0
    obtain ⟨w8, hF8, y8, rfl, hl8, hh8⟩ := hK8.2 1 (.inl ((-2147483648), 2147483647)) rfl
    dsimp only at hl8 hh8
    refine J_get jf_X2_15 dX2_extend_8 hO8 hF8 ?_
    refine J_iconst (v := 1) dX2_extend_11 (by decide) ?_
    refine J_isub dX2_extend_12 ?_
    refine J_aload_n dX2_extend_13 rfl ?_
    obtain ⟨w14, hF14, y14, rfl, hl14, hh14⟩ := hK8.2 2 (.inl ((-2147483648), 2147483647)) rfl
    dsimp only at hl14 hh14
    refine J_get jf_X2_19 dX2_extend_14 hO8 hF14 ?_
    refine J_iconst (v := 1) dX2_extend_17 (by decide) ?_
    refine J_isub dX2_extend_18 ?_
    refine J_callS2 moX2_numberOf jw_ml_X2_50 jw_st_X2_numberOf dX2_extend_19 (w_X2_numberOf (d - 1) _ _ _ (by omega)    ) (by omega) (Nat.zero_le _) (Nat.zero_le _) (Nat.le_of_ble_eq_true rfl) (fun r19 V19 h19 => ?_)
    obtain ⟨⟨y19, rfl, hl19, hh19⟩, hE19⟩ := h19
    have hE19 := hE19.symm
    subst hE19
    refine J_istore dX2_extend_22 rfl (by decide) ?_
    refine J_gets (k := 3) rfl jw_fl_X2_63 dX2_extend_24 ?_
    refine J_astore dX2_extend_27 rfl (by decide) ?_
    refine J_aload dX2_extend_29 rfl ?_
    refine J_tlen (k := 3) rfl dX2_extend_31 rfl ?_
    refine J_istore dX2_extend_32 rfl (by decide) ?_
    refine J_iconst (v := 0) dX2_extend_34 (by decide) ?_
    refine J_istore dX2_extend_35 rfl (by decide) ?_
    have L37 : ∀ (N : Nat) (V : jH) (i5 : Int32) (i7 : Int32) (i8 : Int32), WT V → jeff [.inr 0, .inl 12] V0 V → jkc 0 [1, 2, 3] V0 V → jis V (.inr 0) a0 → (0 ≤ i8.toInt) → (i7 = 4) → (2147483648 - i8.toInt).toNat < N → J tS mX2_extend d 37 [some (.ref a0), some (.int x1), some (.int x2), some (.long x3), none, some (.int i5), some (.ref (tS.1 3)), some (.int i7), some (.int i8), none, none, none, none] [] V 0 0 (fun r V => (jPost [.inr 0, .inl 12] V0 rV) r V ∧ jkc 0 [1, 2, 3] V0 V) := by
      intro N
      induction N with
      | zero => intro V i5 i7 i8 hW he hkp ha0 hi8 hi7 hm; exact absurd hm (Nat.not_lt_zero _)
      | succ N ih =>
        intro V i5 i7 i8 hW he hkp ha0 hi8 hi7 hm
        have ih37 := ih
        refine J_iload dX2_extend_37 rfl ?_
        refine J_iload dX2_extend_39 rfl ?_
        refine J_icmp_ge (tgt := 165) dX2_extend_41 (by decide) (fun c41 => ?_) (fun c41 => ?_)
        · exact J_ret (r := none) dX2_extend_165 ⟨rfl, rfl⟩ (⟨⟨hW, he, rfl⟩, hkp⟩)
        · refine J_aload dX2_extend_44 rfl ?_
          refine J_iload dX2_extend_46 rfl ?_
          refine J_ti (k := 3) rfl rfl dX2_extend_48 (vp_in_n hi8 (by have h9 := jlt.mp (Int32.not_le.mp c41); have h8 : (4 : Int32).toInt = 4 := rfl; rw [hi7, h8] at h9; exact h9)) rfl ?_
          refine J_istore dX2_extend_49 rfl (by decide) ?_
          refine J_iload_n dX2_extend_51 rfl ?_
          refine J_iload dX2_extend_52 rfl ?_
          refine J_iadd dX2_extend_54 ?_
          refine J_istore dX2_extend_55 rfl (by decide) ?_
          refine J_lconst (v := 1) dX2_extend_57 rfl ?_
          refine J_iload dX2_extend_58 rfl ?_
          refine J_lshl dX2_extend_60 rfl ?_
          refine J_lstore dX2_extend_61 rfl (by decide) ?_
          refine J_lload_n dX2_extend_63 rfl ?_
          refine J_lload dX2_extend_64 rfl ?_
          refine J_land dX2_extend_66 ?_
          refine J_lconst (v := 0) dX2_extend_67 rfl ?_
          refine J_lcmp dX2_extend_68 ?_
          refine J_if_eq (tgt := 159) dX2_extend_69 (by decide) (fun c69 => ?_) (fun c69 => ?_)
          · refine J_iinc dX2_extend_159 rfl j_inc1 rfl (by decide) ?_
            refine J_goto (tgt := 37) dX2_extend_162 (by decide) ?_
            refine J.mask [true, true, true, true, false, true, true, true, true, false, false, false, false] ?_
            exact ih37 _ _ _ _ hW he hkp ha0 (by have h8 := j_rng i8; have h9 := jm_up (Int32.not_le.mp c41); omega) hi7 (jdec_up (Int32.not_le.mp c41) (by assumption))
          · refine J_aload_n dX2_extend_72 rfl ?_
            obtain ⟨fs73, hO73, hK73⟩ := WT_obj hW id ha0
            obtain ⟨w73, hF73, y73, rfl, hl73, hh73⟩ := hK73.2 8 (.inl (0, 1)) rfl
            dsimp only at hl73 hh73
            refine J_get jf_X2_39 dX2_extend_73 hO73 hF73 ?_
            refine J_if_eq (tgt := 82) dX2_extend_76 (by decide) (fun c76 => ?_) (fun c76 => ?_)
            · refine J_aload_n dX2_extend_82 rfl ?_
              refine J_dup dX2_extend_83 rfl ?_
              obtain ⟨w84, hF84, y84, rfl, hl84, hh84⟩ := hK73.2 4 (.inl ((-2147483648), 2147483647)) rfl
              dsimp only at hl84 hh84
              refine J_get jf_X2_26 dX2_extend_84 hO73 hF84 ?_
              refine J_iconst (v := 1) dX2_extend_87 (by decide) ?_
              refine J_iadd dX2_extend_88 ?_
              refine Jk_putI hW id ha0 rfl jf_X2_26 jt_X2_4 dX2_extend_89 (j_rng _).1 (j_rng _).2 rfl rfl (fun V89 hW hx89 hk89 => ?_)
              have hkp := hkp.trans (hk89 _ _ (by decide))
              have he := he.trans (hx89.sub (jsub_of rfl))
              have ha0 := ha0.mono hx89.1
              refine J_aload_n dX2_extend_92 rfl ?_
              refine J_aload_n dX2_extend_93 rfl ?_
              obtain ⟨fs94, hO94, hK94⟩ := WT_obj hW id ha0
              obtain ⟨w94, hF94, y94, rfl, hl94, hh94⟩ := hK94.2 4 (.inl ((-2147483648), 2147483647)) rfl
              dsimp only at hl94 hh94
              refine J_get jf_X2_26 dX2_extend_94 hO94 hF94 ?_
              refine J_ldc jw_k_X2_66 dX2_extend_97 ?_
              refine J_icmp_le (tgt := 106) dX2_extend_99 (by decide) (fun c99 => ?_) (fun c99 => ?_)
              · refine J_iconst (v := 0) dX2_extend_106 (by decide) ?_
                refine Jk_putI hW id ha0 rfl jf_X2_39 jt_X2_8 dX2_extend_107 (by first | decide | assumption | omega) (by first | decide | assumption | omega) (by first | rfl | exact nar_b (by assumption) (by assumption)) (by first | rfl | exact fit_b (by assumption) (by assumption)) (fun V107 hW hx107 hk107 => ?_)
                have hkp := hkp.trans (hk107 _ _ (by decide))
                have he := he.trans (hx107.sub (jsub_of rfl))
                have ha0 := ha0.mono hx107.1
                refine J_iload dX2_extend_110 rfl ?_
                refine J_iload dX2_extend_112 rfl ?_
                refine J_icmp_ne (tgt := 142) dX2_extend_114 (by decide) (fun c114 => ?_) (fun c114 => ?_)
                · refine J_aload_n dX2_extend_142 rfl ?_
                  refine J_iload_n dX2_extend_143 rfl ?_
                  refine J_iconst (v := 1) dX2_extend_144 (by decide) ?_
                  refine J_iadd dX2_extend_145 ?_
                  refine J_iload dX2_extend_146 rfl ?_
                  refine J_lload_n dX2_extend_148 rfl ?_
                  refine J_lload dX2_extend_149 rfl ?_
                  refine J_ldc2 jw_k_X2_57 dX2_extend_151 ?_
                  refine J_lxor dX2_extend_154 ?_
                  refine J_land dX2_extend_155 ?_
                  refine J_callS4 moX2_extend jw_ml_X2_59 jw_st_X2_extend dX2_extend_156 (IH (d - 1) _ _ _ _ _ (by omega) hW ha0 (by have h9 := j_add1 (x := x1) (by omega); omega) (by have h9 := j_add1 (x := x1) (by omega); have h8 := jlt.mp c3; have h7 : (36 : Int32).toInt = 36 := rfl; omega) (by have h9 := j_add1 (x := x1) (by omega); have h8 := jlt.mp c3; have h7 : (36 : Int32).toInt = 36 := rfl; omega)) (by omega) (Nat.zero_le _) (Nat.zero_le _) (Nat.le_of_ble_eq_true rfl) (fun r156 V156 h156 => ?_)
                  obtain ⟨⟨hW, hx156, hr156⟩, hk156⟩ := h156
                  have hkp := hkp.trans hk156
                  have he := he.trans (hx156.sub (jsub_of rfl))
                  have ha0 := ha0.mono hx156.1
                  cases hr156
                  refine J_iinc dX2_extend_159 rfl j_inc1 rfl (by decide) ?_
                  refine J_goto (tgt := 37) dX2_extend_162 (by decide) ?_
                  refine J.mask [true, true, true, true, false, true, true, true, true, false, false, false, false] ?_
                  exact ih37 _ _ _ _ hW he hkp ha0 (by have h8 := j_rng i8; have h9 := jm_up (Int32.not_le.mp c41); omega) hi7 (jdec_up (Int32.not_le.mp c41) (by assumption))
                · refine J_aload_n dX2_extend_117 rfl ?_
                  refine J_iload_n dX2_extend_118 rfl ?_
                  refine J_iconst (v := 1) dX2_extend_119 (by decide) ?_
                  refine J_iadd dX2_extend_120 ?_
                  refine J_lload_n dX2_extend_121 rfl ?_
                  refine J_lload dX2_extend_122 rfl ?_
                  refine J_ldc2 jw_k_X2_57 dX2_extend_124 ?_
                  refine J_lxor dX2_extend_127 ?_
                  refine J_land dX2_extend_128 ?_
                  refine J_lconst (v := 0) dX2_extend_129 rfl ?_
                  refine J_lcmp dX2_extend_130 ?_
                  refine J_if_ne (tgt := 138) dX2_extend_131 (by decide) (fun c131 => ?_) (fun c131 => ?_)
                  · refine J_iconst (v := 0) dX2_extend_138 (by decide) ?_
                    refine Jw_callV2 (q9 := (RX2, TX2, 9)) moX2_score jw_ml_X2_67 jw_im_X2_score jw_se_X2_score ha0 rfl rfl dX2_extend_139 (w_X2_score (d - 1) _ _ _ _ (by omega) hW  ha0 ) (by omega) (Nat.zero_le _) (Nat.zero_le _) (Nat.le_of_ble_eq_true rfl) (fun r139 V139 h139 => ?_)
                    obtain ⟨⟨hW, hx139, hr139⟩, hk139⟩ := h139
                    have hkp := hkp.trans hk139
                    have he := he.trans (hx139.sub (jsub_of rfl))
                    have ha0 := ha0.mono hx139.1
                    cases hr139
                    refine J_aload_n dX2_extend_142 rfl ?_
                    refine J_iload_n dX2_extend_143 rfl ?_
                    refine J_iconst (v := 1) dX2_extend_144 (by decide) ?_
                    refine J_iadd dX2_extend_145 ?_
                    refine J_iload dX2_extend_146 rfl ?_
                    refine J_lload_n dX2_extend_148 rfl ?_
                    refine J_lload dX2_extend_149 rfl ?_
                    refine J_ldc2 jw_k_X2_57 dX2_extend_151 ?_
                    refine J_lxor dX2_extend_154 ?_
                    refine J_land dX2_extend_155 ?_
                    refine J_callS4 moX2_extend jw_ml_X2_59 jw_st_X2_extend dX2_extend_156 (IH (d - 1) _ _ _ _ _ (by omega) hW ha0 (by have h9 := j_add1 (x := x1) (by omega); omega) (by have h9 := j_add1 (x := x1) (by omega); have h8 := jlt.mp c3; have h7 : (36 : Int32).toInt = 36 := rfl; omega) (by have h9 := j_add1 (x := x1) (by omega); have h8 := jlt.mp c3; have h7 : (36 : Int32).toInt = 36 := rfl; omega)) (by omega) (Nat.zero_le _) (Nat.zero_le _) (Nat.le_of_ble_eq_true rfl) (fun r156 V156 h156 => ?_)
                    obtain ⟨⟨hW, hx156, hr156⟩, hk156⟩ := h156
                    have hkp := hkp.trans hk156
                    have he := he.trans (hx156.sub (jsub_of rfl))
                    have ha0 := ha0.mono hx156.1
                    cases hr156
                    refine J_iinc dX2_extend_159 rfl j_inc1 rfl (by decide) ?_
                    refine J_goto (tgt := 37) dX2_extend_162 (by decide) ?_
                    refine J.mask [true, true, true, true, false, true, true, true, true, false, false, false, false] ?_
                    exact ih37 _ _ _ _ hW he hkp ha0 (by have h8 := j_rng i8; have h9 := jm_up (Int32.not_le.mp c41); omega) hi7 (jdec_up (Int32.not_le.mp c41) (by assumption))
                  · refine J_iconst (v := 1) dX2_extend_134 (by decide) ?_
                    refine J_goto (tgt := 139) dX2_extend_135 (by decide) ?_
                    refine Jw_callV2 (q9 := (RX2, TX2, 9)) moX2_score jw_ml_X2_67 jw_im_X2_score jw_se_X2_score ha0 rfl rfl dX2_extend_139 (w_X2_score (d - 1) _ _ _ _ (by omega) hW  ha0 ) (by omega) (Nat.zero_le _) (Nat.zero_le _) (Nat.le_of_ble_eq_true rfl) (fun r139 V139 h139 => ?_)
                    obtain ⟨⟨hW, hx139, hr139⟩, hk139⟩ := h139
                    have hkp := hkp.trans hk139
                    have he := he.trans (hx139.sub (jsub_of rfl))
                    have ha0 := ha0.mono hx139.1
                    cases hr139
                    refine J_aload_n dX2_extend_142 rfl ?_
                    refine J_iload_n dX2_extend_143 rfl ?_
                    refine J_iconst (v := 1) dX2_extend_144 (by decide) ?_
                    refine J_iadd dX2_extend_145 ?_
                    refine J_iload dX2_extend_146 rfl ?_
                    refine J_lload_n dX2_extend_148 rfl ?_
                    refine J_lload dX2_extend_149 rfl ?_
                    refine J_ldc2 jw_k_X2_57 dX2_extend_151 ?_
                    refine J_lxor dX2_extend_154 ?_
                    refine J_land dX2_extend_155 ?_
                    refine J_callS4 moX2_extend jw_ml_X2_59 jw_st_X2_extend dX2_extend_156 (IH (d - 1) _ _ _ _ _ (by omega) hW ha0 (by have h9 := j_add1 (x := x1) (by omega); omega) (by have h9 := j_add1 (x := x1) (by omega); have h8 := jlt.mp c3; have h7 : (36 : Int32).toInt = 36 := rfl; omega) (by have h9 := j_add1 (x := x1) (by omega); have h8 := jlt.mp c3; have h7 : (36 : Int32).toInt = 36 := rfl; omega)) (by omega) (Nat.zero_le _) (Nat.zero_le _) (Nat.le_of_ble_eq_true rfl) (fun r156 V156 h156 => ?_)
                    obtain ⟨⟨hW, hx156, hr156⟩, hk156⟩ := h156
                    have hkp := hkp.trans hk156
                    have he := he.trans (hx156.sub (jsub_of rfl))
                    have ha0 := ha0.mono hx156.1
                    cases hr156
                    refine J_iinc dX2_extend_159 rfl j_inc1 rfl (by decide) ?_
                    refine J_goto (tgt := 37) dX2_extend_162 (by decide) ?_
                    refine J.mask [true, true, true, true, false, true, true, true, true, false, false, false, false] ?_
                    exact ih37 _ _ _ _ hW he hkp ha0 (by have h8 := j_rng i8; have h9 := jm_up (Int32.not_le.mp c41); omega) hi7 (jdec_up (Int32.not_le.mp c41) (by assumption))
              · refine J_iconst (v := 1) dX2_extend_102 (by decide) ?_
                refine J_goto (tgt := 107) dX2_extend_103 (by decide) ?_
                refine Jk_putI hW id ha0 rfl jf_X2_39 jt_X2_8 dX2_extend_107 (by first | decide | assumption | omega) (by first | decide | assumption | omega) (by first | rfl | exact nar_b (by assumption) (by assumption)) (by first | rfl | exact fit_b (by assumption) (by assumption)) (fun V107 hW hx107 hk107 => ?_)
                have hkp := hkp.trans (hk107 _ _ (by decide))
                have he := he.trans (hx107.sub (jsub_of rfl))
                have ha0 := ha0.mono hx107.1
                refine J_iload dX2_extend_110 rfl ?_
                refine J_iload dX2_extend_112 rfl ?_
                refine J_icmp_ne (tgt := 142) dX2_extend_114 (by decide) (fun c114 => ?_) (fun c114 => ?_)
                · refine J_aload_n dX2_extend_142 rfl ?_
                  refine J_iload_n dX2_extend_143 rfl ?_
                  refine J_iconst (v := 1) dX2_extend_144 (by decide) ?_
                  refine J_iadd dX2_extend_145 ?_
                  refine J_iload dX2_extend_146 rfl ?_
                  refine J_lload_n dX2_extend_148 rfl ?_
                  refine J_lload dX2_extend_149 rfl ?_
                  refine J_ldc2 jw_k_X2_57 dX2_extend_151 ?_
                  refine J_lxor dX2_extend_154 ?_
                  refine J_land dX2_extend_155 ?_
                  refine J_callS4 moX2_extend jw_ml_X2_59 jw_st_X2_extend dX2_extend_156 (IH (d - 1) _ _ _ _ _ (by omega) hW ha0 (by have h9 := j_add1 (x := x1) (by omega); omega) (by have h9 := j_add1 (x := x1) (by omega); have h8 := jlt.mp c3; have h7 : (36 : Int32).toInt = 36 := rfl; omega) (by have h9 := j_add1 (x := x1) (by omega); have h8 := jlt.mp c3; have h7 : (36 : Int32).toInt = 36 := rfl; omega)) (by omega) (Nat.zero_le _) (Nat.zero_le _) (Nat.le_of_ble_eq_true rfl) (fun r156 V156 h156 => ?_)
                  obtain ⟨⟨hW, hx156, hr156⟩, hk156⟩ := h156
                  have hkp := hkp.trans hk156
                  have he := he.trans (hx156.sub (jsub_of rfl))
                  have ha0 := ha0.mono hx156.1
                  cases hr156
                  refine J_iinc dX2_extend_159 rfl j_inc1 rfl (by decide) ?_
                  refine J_goto (tgt := 37) dX2_extend_162 (by decide) ?_
                  refine J.mask [true, true, true, true, false, true, true, true, true, false, false, false, false] ?_
                  exact ih37 _ _ _ _ hW he hkp ha0 (by have h8 := j_rng i8; have h9 := jm_up (Int32.not_le.mp c41); omega) hi7 (jdec_up (Int32.not_le.mp c41) (by assumption))
                · refine J_aload_n dX2_extend_117 rfl ?_
                  refine J_iload_n dX2_extend_118 rfl ?_
                  refine J_iconst (v := 1) dX2_extend_119 (by decide) ?_
                  refine J_iadd dX2_extend_120 ?_
                  refine J_lload_n dX2_extend_121 rfl ?_
                  refine J_lload dX2_extend_122 rfl ?_
                  refine J_ldc2 jw_k_X2_57 dX2_extend_124 ?_
                  refine J_lxor dX2_extend_127 ?_
                  refine J_land dX2_extend_128 ?_
                  refine J_lconst (v := 0) dX2_extend_129 rfl ?_
                  refine J_lcmp dX2_extend_130 ?_
                  refine J_if_ne (tgt := 138) dX2_extend_131 (by decide) (fun c131 => ?_) (fun c131 => ?_)
                  · refine J_iconst (v := 0) dX2_extend_138 (by decide) ?_
                    refine Jw_callV2 (q9 := (RX2, TX2, 9)) moX2_score jw_ml_X2_67 jw_im_X2_score jw_se_X2_score ha0 rfl rfl dX2_extend_139 (w_X2_score (d - 1) _ _ _ _ (by omega) hW  ha0 ) (by omega) (Nat.zero_le _) (Nat.zero_le _) (Nat.le_of_ble_eq_true rfl) (fun r139 V139 h139 => ?_)
                    obtain ⟨⟨hW, hx139, hr139⟩, hk139⟩ := h139
                    have hkp := hkp.trans hk139
                    have he := he.trans (hx139.sub (jsub_of rfl))
                    have ha0 := ha0.mono hx139.1
                    cases hr139
                    refine J_aload_n dX2_extend_142 rfl ?_
                    refine J_iload_n dX2_extend_143 rfl ?_
                    refine J_iconst (v := 1) dX2_extend_144 (by decide) ?_
                    refine J_iadd dX2_extend_145 ?_
                    refine J_iload dX2_extend_146 rfl ?_
                    refine J_lload_n dX2_extend_148 rfl ?_
                    refine J_lload dX2_extend_149 rfl ?_
                    refine J_ldc2 jw_k_X2_57 dX2_extend_151 ?_
                    refine J_lxor dX2_extend_154 ?_
                    refine J_land dX2_extend_155 ?_
                    refine J_callS4 moX2_extend jw_ml_X2_59 jw_st_X2_extend dX2_extend_156 (IH (d - 1) _ _ _ _ _ (by omega) hW ha0 (by have h9 := j_add1 (x := x1) (by omega); omega) (by have h9 := j_add1 (x := x1) (by omega); have h8 := jlt.mp c3; have h7 : (36 : Int32).toInt = 36 := rfl; omega) (by have h9 := j_add1 (x := x1) (by omega); have h8 := jlt.mp c3; have h7 : (36 : Int32).toInt = 36 := rfl; omega)) (by omega) (Nat.zero_le _) (Nat.zero_le _) (Nat.le_of_ble_eq_true rfl) (fun r156 V156 h156 => ?_)
                    obtain ⟨⟨hW, hx156, hr156⟩, hk156⟩ := h156
                    have hkp := hkp.trans hk156
                    have he := he.trans (hx156.sub (jsub_of rfl))
                    have ha0 := ha0.mono hx156.1
                    cases hr156
                    refine J_iinc dX2_extend_159 rfl j_inc1 rfl (by decide) ?_
                    refine J_goto (tgt := 37) dX2_extend_162 (by decide) ?_
                    refine J.mask [true, true, true, true, false, true, true, true, true, false, false, false, false] ?_
                    exact ih37 _ _ _ _ hW he hkp ha0 (by have h8 := j_rng i8; have h9 := jm_up (Int32.not_le.mp c41); omega) hi7 (jdec_up (Int32.not_le.mp c41) (by assumption))
                  · refine J_iconst (v := 1) dX2_extend_134 (by decide) ?_
                    refine J_goto (tgt := 139) dX2_extend_135 (by decide) ?_
                    refine Jw_callV2 (q9 := (RX2, TX2, 9)) moX2_score jw_ml_X2_67 jw_im_X2_score jw_se_X2_score ha0 rfl rfl dX2_extend_139 (w_X2_score (d - 1) _ _ _ _ (by omega) hW  ha0 ) (by omega) (Nat.zero_le _) (Nat.zero_le _) (Nat.le_of_ble_eq_true rfl) (fun r139 V139 h139 => ?_)
                    obtain ⟨⟨hW, hx139, hr139⟩, hk139⟩ := h139
                    have hkp := hkp.trans hk139
                    have he := he.trans (hx139.sub (jsub_of rfl))
                    have ha0 := ha0.mono hx139.1
                    cases hr139
                    refine J_aload_n dX2_extend_142 rfl ?_
                    refine J_iload_n dX2_extend_143 rfl ?_
                    refine J_iconst (v := 1) dX2_extend_144 (by decide) ?_
                    refine J_iadd dX2_extend_145 ?_
                    refine J_iload dX2_extend_146 rfl ?_
                    refine J_lload_n dX2_extend_148 rfl ?_
                    refine J_lload dX2_extend_149 rfl ?_
                    refine J_ldc2 jw_k_X2_57 dX2_extend_151 ?_
                    refine J_lxor dX2_extend_154 ?_
                    refine J_land dX2_extend_155 ?_
                    refine J_callS4 moX2_extend jw_ml_X2_59 jw_st_X2_extend dX2_extend_156 (IH (d - 1) _ _ _ _ _ (by omega) hW ha0 (by have h9 := j_add1 (x := x1) (by omega); omega) (by have h9 := j_add1 (x := x1) (by omega); have h8 := jlt.mp c3; have h7 : (36 : Int32).toInt = 36 := rfl; omega) (by have h9 := j_add1 (x := x1) (by omega); have h8 := jlt.mp c3; have h7 : (36 : Int32).toInt = 36 := rfl; omega)) (by omega) (Nat.zero_le _) (Nat.zero_le _) (Nat.le_of_ble_eq_true rfl) (fun r156 V156 h156 => ?_)
                    obtain ⟨⟨hW, hx156, hr156⟩, hk156⟩ := h156
                    have hkp := hkp.trans hk156
                    have he := he.trans (hx156.sub (jsub_of rfl))
                    have ha0 := ha0.mono hx156.1
                    cases hr156
                    refine J_iinc dX2_extend_159 rfl j_inc1 rfl (by decide) ?_
                    refine J_goto (tgt := 37) dX2_extend_162 (by decide) ?_
                    refine J.mask [true, true, true, true, false, true, true, true, true, false, false, false, false] ?_
                    exact ih37 _ _ _ _ hW he hkp ha0 (by have h8 := j_rng i8; have h9 := jm_up (Int32.not_le.mp c41); omega) hi7 (jdec_up (Int32.not_le.mp c41) (by assumption))
            · refine J_goto (tgt := 159) dX2_extend_79 (by decide) ?_
              refine J_iinc dX2_extend_159 rfl j_inc1 rfl (by decide) ?_
              refine J_goto (tgt := 37) dX2_extend_162 (by decide) ?_
              refine J.mask [true, true, true, true, false, true, true, true, true, false, false, false, false] ?_
              exact ih37 _ _ _ _ hW he hkp ha0 (by have h8 := j_rng i8; have h9 := jm_up (Int32.not_le.mp c41); omega) hi7 (jdec_up (Int32.not_le.mp c41) (by assumption))
    refine J.mask [true, true, true, true, false, true, true, true, true, false, false, false, false] ?_
    exact L37 _ _ _ _ _ hW he hkp ha0 (by decide) rfl (Nat.lt_succ_self _)
  · exact J_ret (r := none) dX2_extend_6 ⟨rfl, rfl⟩ (⟨⟨hW, he, rfl⟩, hkp⟩)
set_option maxRecDepth 100000 in
set_option maxHeartbeats 4000000 in
theorem w_X2_countWays {tS : jTS} (d : Nat) (V0 : jH) (a0 : Nat)  (hd : 41 ≤ d) (hW : WT V0) (ha0 : jis V0 (.inr 0) a0)  : jTot tS mX2_countWays d [.ref a0] V0 0 0 (fun r V => (jPost [.inr 0, .inl 12] V0 rV) r V ∧ jkc 0 [1, 2, 3] V0 V) := by
  refine jTot.of_J [some (.ref a0), none] moX2_countWays (Nat.le_of_ble_eq_true rfl) rfl ?_
  have he : jeff [.inr 0, .inl 12] V0 V0 := jeff.refl _ _
  have hkp : jkc 0 [1, 2, 3] V0 V0 := jkc.rf
  refine J_aload_n dX2_countWays_0 rfl ?_
  refine J_iconst (v := 0) dX2_countWays_1 (by decide) ?_
  refine Jk_putI hW id ha0 rfl jf_X2_26 jt_X2_4 dX2_countWays_2 (j_rng _).1 (j_rng _).2 rfl rfl (fun V2 hW hx2 hk2 => ?_)
  have hkp := hkp.trans (hk2 _ _ (by decide))
  have he := he.trans (hx2.sub (jsub_of rfl))
  have ha0 := ha0.mono hx2.1
  refine J_aload_n dX2_countWays_5 rfl ?_
  refine J_iconst (v := 0) dX2_countWays_6 (by decide) ?_
  refine Jk_putI hW id ha0 rfl jf_X2_29 jt_X2_5 dX2_countWays_7 (j_rng _).1 (j_rng _).2 rfl rfl (fun V7 hW hx7 hk7 => ?_)
  have hkp := hkp.trans (hk7 _ _ (by decide))
  have he := he.trans (hx7.sub (jsub_of rfl))
  have ha0 := ha0.mono hx7.1
  refine J_aload_n dX2_countWays_10 rfl ?_
  refine J_iconst (v := 0) dX2_countWays_11 (by decide) ?_
  refine Jk_putI hW id ha0 rfl jf_X2_32 jt_X2_6 dX2_countWays_12 (j_rng _).1 (j_rng _).2 rfl rfl (fun V12 hW hx12 hk12 => ?_)
  have hkp := hkp.trans (hk12 _ _ (by decide))
  have he := he.trans (hx12.sub (jsub_of rfl))
  have ha0 := ha0.mono hx12.1
  refine J_aload_n dX2_countWays_15 rfl ?_
  refine J_iconst (v := 0) dX2_countWays_16 (by decide) ?_
  refine Jk_putI hW id ha0 rfl jf_X2_39 jt_X2_8 dX2_countWays_17 (by first | decide | assumption | omega) (by first | decide | assumption | omega) (by first | rfl | exact nar_b (by assumption) (by assumption)) (by first | rfl | exact fit_b (by assumption) (by assumption)) (fun V17 hW hx17 hk17 => ?_)
  have hkp := hkp.trans (hk17 _ _ (by decide))
  have he := he.trans (hx17.sub (jsub_of rfl))
  have ha0 := ha0.mono hx17.1
  refine J_iconst (v := 0) dX2_countWays_20 (by decide) ?_
  refine J_istore_n dX2_countWays_21 rfl (by decide) ?_
  have L22 : ∀ (N : Nat) (V : jH) (i1 : Int32), WT V → jeff [.inr 0, .inl 12] V0 V → jkc 0 [1, 2, 3] V0 V → jis V (.inr 0) a0 → (0 ≤ i1.toInt) → (2147483648 - i1.toInt).toNat < N → J tS mX2_countWays d 22 [some (.ref a0), some (.int i1)] [] V 0 0 (fun r V => (jPost [.inr 0, .inl 12] V0 rV) r V ∧ jkc 0 [1, 2, 3] V0 V) := by
    intro N
    induction N with
    | zero => intro V i1 hW he hkp ha0 hi1 hm; exact absurd hm (Nat.not_lt_zero _)
    | succ N ih =>
      intro V i1 hW he hkp ha0 hi1 hm
      have ih22 := ih
      refine J_iload_n dX2_countWays_22 rfl ?_
      refine J_aload_n dX2_countWays_23 rfl ?_
      obtain ⟨fs24, hO24, hK24⟩ := WT_obj hW id ha0
      obtain ⟨w24, hF24, b24, rfl, hb24⟩ := hK24.2 0 (.inr (some (.inl 12))) rfl
      refine J_get jf_X2_11 dX2_countWays_24 hO24 hF24 ?_
      obtain ⟨n27, f27, hA27, hN27, hM27, hv27⟩ := WT_arrI (r := (-2147483648, 2147483647)) hW id rfl hb24
      obtain rfl := hM27 36 rfl
      refine J_alen (v := Int32.ofNat 36) dX2_countWays_27 hA27 rfl rfl ?_
      refine J_icmp_ge (tgt := 44) dX2_countWays_28 (by decide) (fun c28 => ?_) (fun c28 => ?_)
      · refine J_aload_n dX2_countWays_44 rfl ?_
        refine J_iconst (v := 0) dX2_countWays_45 (by decide) ?_
        refine J_bipush (v := 9) dX2_countWays_46 (by decide) ?_
        refine J_aload_n dX2_countWays_48 rfl ?_
        obtain ⟨w49, hF49, y49, rfl⟩ := hK24.2 3 (.inr none) rfl
        refine J_get jf_X2_22 dX2_countWays_49 hO24 hF49 ?_
        refine J_iconst (v := 0) dX2_countWays_52 (by decide) ?_
        refine J_iconst (v := 0) dX2_countWays_53 (by decide) ?_
        refine J_callS2 moX2_bitOf jw_ml_X2_46 jw_st_X2_bitOf dX2_countWays_54 (w_X2_bitOf (d - 1) _ _ _ (by omega)    ) (by omega) (Nat.zero_le _) (Nat.zero_le _) (Nat.le_of_ble_eq_true rfl) (fun r54 V54 h54 => ?_)
        obtain ⟨⟨y54, rfl⟩, hE54⟩ := h54
        have hE54 := hE54.symm
        subst hE54
        refine J_ldc2 jw_k_X2_57 dX2_countWays_57 ?_
        refine J_lxor dX2_countWays_60 ?_
        refine J_land dX2_countWays_61 ?_
        refine J_callS4 moX2_extend jw_ml_X2_59 jw_st_X2_extend dX2_countWays_62 (w_X2_extend 38 (d - 1) _ _ _ _ _ (by omega) hW ha0 (by first | decide | assumption | omega) (by first | decide | assumption | omega) (by decide)) (by omega) (Nat.zero_le _) (Nat.zero_le _) (Nat.le_of_ble_eq_true rfl) (fun r62 V62 h62 => ?_)
        obtain ⟨⟨hW, hx62, hr62⟩, hk62⟩ := h62
        have hkp := hkp.trans hk62
        have he := he.trans (hx62.sub (jsub_of rfl))
        have ha0 := ha0.mono hx62.1
        cases hr62
        exact J_ret (r := none) dX2_countWays_65 ⟨rfl, rfl⟩ (⟨⟨hW, he, rfl⟩, hkp⟩)
      · refine J_aload_n dX2_countWays_31 rfl ?_
        refine J_get jf_X2_11 dX2_countWays_32 hO24 hF24 ?_
        refine J_iload_n dX2_countWays_35 rfl ?_
        refine J_iconst (v := 0) dX2_countWays_36 (by decide) ?_
        refine Jw_iast hW id dX2_countWays_37 hA27 rfl rfl (by first | exact vp_in_g (by assumption) (by assumption) (by assumption) | exact vp_in_g1 (by assumption) (by assumption) (by assumption) | exact vp_in_g2 (by assumption) (by assumption) (by assumption) | exact vp_in_g3 (by assumption) (by assumption) (by assumption) | exact vp_in_n (by omega) (by omega)) (j_rng _).1 (j_rng _).2 (fun V37 hW hx37 hy37 => ?_)
        have hkp := hkp.trans (jkc.of hx37 (jnot_of rfl))
        have he := he.trans (hx37.sub (jsub_of rfl))
        have ha0 := ha0.mono hx37.1
        have hb24 := hb24.mono hx37.1
        have hO24 := hx37.2 _ _ hO24 (jnot_of rfl)
        have hK24 := hK24.mono hx37.1
        refine J_iinc dX2_countWays_38 rfl j_inc1 rfl (by decide) ?_
        refine J_goto (tgt := 22) dX2_countWays_41 (by decide) ?_
        refine J.mask [true, true] ?_
        exact ih22 _ _ hW he hkp ha0 (by have h8 := j_rng i1; have h9 := jm_up (Int32.not_le.mp c28); omega) (jdec_up (Int32.not_le.mp c28) (by assumption))
  refine J.mask [true, true] ?_
  exact L22 _ _ _ hW he hkp ha0 (by decide) (Nat.lt_succ_self _)
set_option maxRecDepth 100000 in
set_option maxHeartbeats 4000000 in
theorem w_X2_holds {tS : jTS} (d : Nat) (V0 : jH) (a0 : Nat)  (hd : 42 ≤ d) (hW : WT V0) (ha0 : jis V0 (.inr 0) a0)  : jTot tS mX2_holds d [.ref a0] V0 0 0 (fun r V => (jPost [.inr 0, .inl 12] V0 (rI 0 1)) r V ∧ jkc 0 [1, 2, 3] V0 V) := by
  refine jTot.of_J [some (.ref a0)] moX2_holds (Nat.le_of_ble_eq_true rfl) rfl ?_
  have he : jeff [.inr 0, .inl 12] V0 V0 := jeff.refl _ _
  have hkp : jkc 0 [1, 2, 3] V0 V0 := jkc.rf
  refine J_aload_n dX2_holds_0 rfl ?_
  obtain ⟨fs1, hO1, hK1⟩ := WT_obj hW id ha0
  obtain ⟨w1, hF1, y1, rfl, hl1, hh1⟩ := hK1.2 7 (.inl (0, 1)) rfl
  dsimp only at hl1 hh1
  refine J_get jf_X2_35 dX2_holds_1 hO1 hF1 ?_
  refine J_if_ne (tgt := 16) dX2_holds_4 (by decide) (fun c4 => ?_) (fun c4 => ?_)
  · refine J_aload_n dX2_holds_16 rfl ?_
    obtain ⟨w17, hF17, y17, rfl, hl17, hh17⟩ := hK1.2 8 (.inl (0, 1)) rfl
    dsimp only at hl17 hh17
    refine J_get jf_X2_39 dX2_holds_17 hO1 hF17 ?_
    refine J_if_ne (tgt := 27) dX2_holds_20 (by decide) (fun c20 => ?_) (fun c20 => ?_)
    · refine J_iconst (v := 0) dX2_holds_27 (by decide) ?_
      exact J_ret (r := some (.int _)) dX2_holds_28 ⟨rfl, _, rfl, (by first | rfl | exact nar_b (by assumption) (by assumption))⟩ (⟨⟨hW, he, _, rfl, by first | decide | assumption | omega, by first | decide | assumption | omega⟩, hkp⟩)
    · refine J_iconst (v := 1) dX2_holds_23 (by decide) ?_
      refine J_goto (tgt := 28) dX2_holds_24 (by decide) ?_
      exact J_ret (r := some (.int _)) dX2_holds_28 ⟨rfl, _, rfl, (by first | rfl | exact nar_b (by assumption) (by assumption))⟩ (⟨⟨hW, he, _, rfl, by first | decide | assumption | omega, by first | decide | assumption | omega⟩, hkp⟩)
  · refine J_aload_n dX2_holds_7 rfl ?_
    refine Jw_callV0 (q9 := (RX2, TX2, 9)) moX2_countWays jw_ml_X2_54 jw_im_X2_countWays jw_se_X2_countWays ha0 rfl rfl dX2_holds_8 (w_X2_countWays (d - 1) _ _ (by omega) hW  ha0 ) (by omega) (Nat.zero_le _) (Nat.zero_le _) (Nat.le_of_ble_eq_true rfl) (fun r8 V8 h8 => ?_)
    obtain ⟨⟨hW, hx8, hr8⟩, hk8⟩ := h8
    have hkp := hkp.trans hk8
    have he := he.trans (hx8.sub (jsub_of rfl))
    have ha0 := ha0.mono hx8.1
    cases hr8
    refine J_aload_n dX2_holds_11 rfl ?_
    refine J_iconst (v := 1) dX2_holds_12 (by decide) ?_
    refine Jk_putI hW id ha0 rfl jf_X2_35 jt_X2_7 dX2_holds_13 (by first | decide | assumption | omega) (by first | decide | assumption | omega) (by first | rfl | exact nar_b (by assumption) (by assumption)) (by first | rfl | exact fit_b (by assumption) (by assumption)) (fun V13 hW hx13 hk13 => ?_)
    have hkp := hkp.trans (hk13 _ _ (by decide))
    have he := he.trans (hx13.sub (jsub_of rfl))
    have ha0 := ha0.mono hx13.1
    refine J_aload_n dX2_holds_16 rfl ?_
    obtain ⟨fs17, hO17, hK17⟩ := WT_obj hW id ha0
    obtain ⟨w17, hF17, y17, rfl, hl17, hh17⟩ := hK17.2 8 (.inl (0, 1)) rfl
    dsimp only at hl17 hh17
    refine J_get jf_X2_39 dX2_holds_17 hO17 hF17 ?_
    refine J_if_ne (tgt := 27) dX2_holds_20 (by decide) (fun c20 => ?_) (fun c20 => ?_)
    · refine J_iconst (v := 0) dX2_holds_27 (by decide) ?_
      exact J_ret (r := some (.int _)) dX2_holds_28 ⟨rfl, _, rfl, (by first | rfl | exact nar_b (by assumption) (by assumption))⟩ (⟨⟨hW, he, _, rfl, by first | decide | assumption | omega, by first | decide | assumption | omega⟩, hkp⟩)
    · refine J_iconst (v := 1) dX2_holds_23 (by decide) ?_
      refine J_goto (tgt := 28) dX2_holds_24 (by decide) ?_
      exact J_ret (r := some (.int _)) dX2_holds_28 ⟨rfl, _, rfl, (by first | rfl | exact nar_b (by assumption) (by assumption))⟩ (⟨⟨hW, he, _, rfl, by first | decide | assumption | omega, by first | decide | assumption | omega⟩, hkp⟩)
set_option maxRecDepth 100000 in
set_option maxHeartbeats 4000000 in
theorem w_X2_shortestSteps {tS : jTS} (d : Nat) (V0 : jH) (a0 : Nat)  (hd : 2 ≤ d) (hW : WT V0) (ha0 : jis V0 (.inr 0) a0)  : jTot tS mX2_shortestSteps d [.ref a0] V0 0 0 (fun r V => rN r V ∧ V = V0) := by
  refine jTot.of_J [some (.ref a0), none, none, none, none, none, none, none] moX2_shortestSteps (Nat.le_of_ble_eq_true rfl) rfl ?_
  have he : jeff [] V0 V0 := jeff.refl _ _
  refine J_aload_n dX2_shortestSteps_0 rfl ?_
  obtain ⟨fs1, hO1, hK1⟩ := WT_obj hW id ha0
  obtain ⟨w1, hF1, y1, rfl, hl1, hh1⟩ := hK1.2 1 (.inl ((-2147483648), 2147483647)) rfl
  dsimp only at hl1 hh1
  refine J_get jf_X2_15 dX2_shortestSteps_1 hO1 hF1 ?_
  refine J_iconst (v := 1) dX2_shortestSteps_4 (by decide) ?_
  refine J_isub dX2_shortestSteps_5 ?_
  refine J_aload_n dX2_shortestSteps_6 rfl ?_
  obtain ⟨w7, hF7, y7, rfl, hl7, hh7⟩ := hK1.2 2 (.inl ((-2147483648), 2147483647)) rfl
  dsimp only at hl7 hh7
  refine J_get jf_X2_19 dX2_shortestSteps_7 hO1 hF7 ?_
  refine J_iconst (v := 1) dX2_shortestSteps_10 (by decide) ?_
  refine J_isub dX2_shortestSteps_11 ?_
  refine J_callS2 moX2_bitOf jw_ml_X2_46 jw_st_X2_bitOf dX2_shortestSteps_12 (w_X2_bitOf (d - 1) _ _ _ (by omega)    ) (by omega) (Nat.zero_le _) (Nat.zero_le _) (Nat.le_of_ble_eq_true rfl) (fun r12 V12 h12 => ?_)
  obtain ⟨⟨y12, rfl⟩, hE12⟩ := h12
  have hE12 := hE12.symm
  subst hE12
  refine J_lstore_n dX2_shortestSteps_15 rfl (by decide) ?_
  refine J_iconst (v := 0) dX2_shortestSteps_16 (by decide) ?_
  refine J_iconst (v := 0) dX2_shortestSteps_17 (by decide) ?_
  refine J_callS2 moX2_bitOf jw_ml_X2_46 jw_st_X2_bitOf dX2_shortestSteps_18 (w_X2_bitOf (d - 1) _ _ _ (by omega)    ) (by omega) (Nat.zero_le _) (Nat.zero_le _) (Nat.le_of_ble_eq_true rfl) (fun r18 V18 h18 => ?_)
  obtain ⟨⟨y18, rfl⟩, hE18⟩ := h18
  have hE18 := hE18.symm
  subst hE18
  refine J_lstore_n dX2_shortestSteps_21 rfl (by decide) ?_
  refine J_iconst (v := 0) dX2_shortestSteps_22 (by decide) ?_
  refine J_istore dX2_shortestSteps_23 rfl (by decide) ?_
  have L25 : ∀ (N : Nat) (i1 : Int64) (i3 : Int64) (i5 : Int32), WT V0 → jeff [] V0 V0 → jis V0 (.inr 0) a0 → (2147483648 - i5.toInt).toNat < N → J tS mX2_shortestSteps d 25 [some (.ref a0), some (.long i1), none, some (.long i3), none, some (.int i5), none, none] [] V0 0 0 (fun r V => rN r V ∧ V = V0) := by
    intro N
    induction N with
    | zero => intro i1 i3 i5 hW he ha0  hm; exact absurd hm (Nat.not_lt_zero _)
    | succ N ih =>
      intro i1 i3 i5 hW he ha0  hm
      have ih25 := ih
      refine J_iload dX2_shortestSteps_25 rfl ?_
      refine J_bipush (v := 36) dX2_shortestSteps_27 (by decide) ?_
      refine J_icmp_ge (tgt := 78) dX2_shortestSteps_29 (by decide) (fun c29 => ?_) (fun c29 => ?_)
      · refine J_iconst (v := -1) dX2_shortestSteps_78 (by decide) ?_
        exact J_ret (r := some (.int _)) dX2_shortestSteps_79 ⟨rfl, _, rfl, rfl⟩ (⟨rN_of _, rfl⟩)
      · refine J_lload_n dX2_shortestSteps_32 rfl ?_
        refine J_lload_n dX2_shortestSteps_33 rfl ?_
        refine J_land dX2_shortestSteps_34 ?_
        refine J_lconst (v := 0) dX2_shortestSteps_35 rfl ?_
        refine J_lcmp dX2_shortestSteps_36 ?_
        refine J_if_eq (tgt := 43) dX2_shortestSteps_37 (by decide) (fun c37 => ?_) (fun c37 => ?_)
        · refine J_lload_n dX2_shortestSteps_43 rfl ?_
          refine J_iconst (v := 1) dX2_shortestSteps_44 (by decide) ?_
          refine J_lshl dX2_shortestSteps_45 rfl ?_
          refine J_lload_n dX2_shortestSteps_46 rfl ?_
          refine J_iconst (v := 1) dX2_shortestSteps_47 (by decide) ?_
          refine J_lushr dX2_shortestSteps_48 rfl ?_
          refine J_lor dX2_shortestSteps_49 ?_
          refine J_lload_n dX2_shortestSteps_50 rfl ?_
          refine J_bipush (v := 8) dX2_shortestSteps_51 (by decide) ?_
          refine J_lshl dX2_shortestSteps_53 rfl ?_
          refine J_lor dX2_shortestSteps_54 ?_
          refine J_lload_n dX2_shortestSteps_55 rfl ?_
          refine J_bipush (v := 8) dX2_shortestSteps_56 (by decide) ?_
          refine J_lushr dX2_shortestSteps_58 rfl ?_
          refine J_lor dX2_shortestSteps_59 ?_
          refine J_lstore dX2_shortestSteps_60 rfl (by decide) ?_
          refine J_lload_n dX2_shortestSteps_62 rfl ?_
          refine J_lload dX2_shortestSteps_63 rfl ?_
          refine J_aload_n dX2_shortestSteps_65 rfl ?_
          obtain ⟨fs66, hO66, hK66⟩ := WT_obj hW id ha0
          obtain ⟨w66, hF66, y66, rfl⟩ := hK66.2 3 (.inr none) rfl
          refine J_get jf_X2_22 dX2_shortestSteps_66 hO66 hF66 ?_
          refine J_land dX2_shortestSteps_69 ?_
          refine J_lor dX2_shortestSteps_70 ?_
          refine J_lstore_n dX2_shortestSteps_71 rfl (by decide) ?_
          refine J_iinc dX2_shortestSteps_72 rfl j_inc1 rfl (by decide) ?_
          refine J_goto (tgt := 25) dX2_shortestSteps_75 (by decide) ?_
          refine J.mask [true, true, false, true, false, true, false, false] ?_
          exact ih25  _ _ _ hW he ha0  (jdec_up (Int32.not_le.mp c29) (by assumption))
        · refine J_iload dX2_shortestSteps_40 rfl ?_
          exact J_ret (r := some (.int _)) dX2_shortestSteps_42 ⟨rfl, _, rfl, rfl⟩ (⟨rN_of _, rfl⟩)
  refine J.mask [true, true, false, true, false, true, false, false] ?_
  exact L25 _  _ _ _ hW he ha0  (Nat.lt_succ_self _)
