set_option maxRecDepth 100000 in
set_option maxHeartbeats 8000000 in
theorem w_X4_extend_z {tS : jTS} : ∀ (K d : Nat) (V0 : jH) (a0 : Nat) (x1 : Int32) (x2 : Int32) (x3 : Int32) (x4 : Int32) (x5 : Int32) (g : Int32) (R : Int32) (sd : Int32) (lv : Int32) (cd : Int32) (tg : Int32) (sp : Int32) (tk : Nat) (wc : Nat) (sq : Nat) (rc : Nat) (bc : Nat) (ln : Nat) (l : List jP3) (TK : Nat → Int32) (WC : Nat → Int32) (SQ : Nat → Int64) (RC : Nat → Int32) (BC : Nat → Int32), 3 + K ≤ d → WT V0 → (jis V0 (.inr 2) a0) → (0 ≤ x1.toInt) → (x1.toInt ≤ 20) → (jfI V0 a0 2 0 g) → (jfI V0 a0 2 1 R) → (jfI V0 a0 2 2 sd) → (jfI V0 a0 2 10 lv) → (jfI V0 a0 2 11 cd) → (jfI V0 a0 2 12 tg) → (jfI V0 a0 2 13 sp) → (jfR V0 a0 2 3 tk) → (jfR V0 a0 2 4 wc) → (jfR V0 a0 2 5 sq) → (jfR V0 a0 2 6 rc) → (jfR V0 a0 2 7 bc) → (V0 tk = some (.inl (2, ln, .inl TK))) → (V0 wc = some (.inl (8, 21, .inl WC))) → (V0 sq = some (.inl (1, 21, .inr (.inl SQ)))) → (V0 rc = some (.inl (37, 21, .inl RC))) → (V0 bc = some (.inl (38, 21, .inl BC))) → (0 ≤ g.toInt) → (g.toInt ≤ 3) → (R.toInt = jRg g.toInt) → (sd.toInt = 2 * jRg g.toInt + 1) → ((ln : Int) = jLg g.toInt) → (x1.toInt < lv.toInt) → (lv.toInt ≤ jRg g.toInt) → (0 ≤ tg.toInt) → (tg.toInt ≤ 600000) → (0 ≤ (WC lv.toInt.toNat).toInt) → ((WC lv.toInt.toNat).toInt ≤ 600001 - tg.toInt) → (((sp.toInt = 1 ∧ 600000 < tg.toInt + (WC lv.toInt.toNat).toInt) ∨ (sp.toInt = 0 ∧ ¬ 600000 < tg.toInt + (WC lv.toInt.toNat).toInt))) → (l.length = x1.toInt.toNat + 1) → (l.headD (0, 0, 0) = (x2.toInt, x3.toInt, x4.toInt)) → (jnr g.toInt x1.toInt l) → (jtk g.toInt TK l) → (x5.toInt = jtpc l) → (21 - x1.toInt).toNat < K → jTot tS mX4_extend d [.ref a0, .int x1, .int x2, .int x3, .int x4, .int x5] V0 0 0 (fun r V => (jPost [.inr 2, .inl 1, .inl 2, .inl 8, .inl 37, .inl 38] V0 rV) r V ∧ (∃ (TK2 WC2 : Nat → Int32) (SQ2 : Nat → Int64) (RC2 BC2 : Nat → Int32) (sp2 : Int32), V tk = some (.inl (2, ln, .inl TK2)) ∧ V wc = some (.inl (8, 21, .inl WC2)) ∧ V sq = some (.inl (1, 21, .inr (.inl SQ2))) ∧ V rc = some (.inl (37, 21, .inl RC2)) ∧ V bc = some (.inl (38, 21, .inl BC2)) ∧ jfI V a0 2 13 sp2 ∧ jtk g.toInt TK2 l ∧ jac WC2 SQ2 RC2 BC2 lv.toInt.toNat = jcw g.toInt (jfzs g.toInt tg.toInt) (lv.toInt - x1.toInt).toNat l (jac WC SQ RC BC lv.toInt.toNat) ∧ 0 ≤ (WC2 lv.toInt.toNat).toInt ∧ (WC2 lv.toInt.toNat).toInt ≤ 600001 - tg.toInt ∧ ((sp2.toInt = 1 ∧ 600000 < tg.toInt + (WC2 lv.toInt.toNat).toInt) ∨ (sp2.toInt = 0 ∧ ¬ 600000 < tg.toInt + (WC2 lv.toInt.toNat).toInt)) ∧ jot WC2 SQ2 RC2 BC2 WC SQ RC BC lv.toInt.toNat) ∧ jfp [a0, tk, wc, sq, rc, bc] V0 V ∧ (∃ g2 : Int32, jfI V a0 2 0 g2 ∧ (g2.toInt = g.toInt)) ∧ (∃ R2 : Int32, jfI V a0 2 1 R2 ∧ (R2.toInt = R.toInt)) ∧ (∃ sd2 : Int32, jfI V a0 2 2 sd2 ∧ (sd2.toInt = sd.toInt)) ∧ (∃ lv2 : Int32, jfI V a0 2 10 lv2 ∧ (lv2.toInt = lv.toInt)) ∧ (∃ cd2 : Int32, jfI V a0 2 11 cd2 ∧ (cd2.toInt = cd.toInt)) ∧ (∃ tg2 : Int32, jfI V a0 2 12 tg2 ∧ (tg2.toInt = tg.toInt))) := by
  intro K
  induction K with
  | zero => intro d V0 a0 x1 x2 x3 x4 x5 g R sd lv cd tg sp tk wc sq rc bc ln l TK WC SQ RC BC hd hW ha0 hl1 hh1 hf_g hf_R hf_sd hf_lv hf_cd hf_tg hf_sp hr_tk hr_wc hr_sq hr_rc hr_bc ha_TK ha_WC ha_SQ ha_RC ha_BC hp0 hp1 hp2 hp3 hp4 hp5 hp6 hp7 hp8 hp9 hp10 hp11 hp12 hp13 hp14 hp15 hp16 hrk; exact absurd hrk (Nat.not_lt_zero _)
  | succ K IH =>
  intro d V0 a0 x1 x2 x3 x4 x5 g R sd lv cd tg sp tk wc sq rc bc ln l TK WC SQ RC BC hd hW ha0 hl1 hh1 hf_g hf_R hf_sd hf_lv hf_cd hf_tg hf_sp hr_tk hr_wc hr_sq hr_rc hr_bc ha_TK ha_WC ha_SQ ha_RC ha_BC hp0 hp1 hp2 hp3 hp4 hp5 hp6 hp7 hp8 hp9 hp10 hp11 hp12 hp13 hp14 hp15 hp16 hrk
  refine jTot.of_J [some (.ref a0), some (.int x1), some (.int x2), some (.int x3), some (.int x4), some (.int x5), none, none, none, none, none, none, none, none] moX4_extend (Nat.le_of_ble_eq_true rfl) rfl ?_
  have hrx2 := j_rng x2
  have hrx3 := j_rng x3
  have hrx4 := j_rng x4
  have hrx5 := j_rng x5
  have he : jeff [.inr 2, .inl 1, .inl 2, .inl 8, .inl 37, .inl 38] V0 V0 := jeff.refl _ _
  have hfp : jfp [a0, tk, wc, sq, rc, bc] V0 V0 := jfp.rf
  obtain ⟨fs_a0, hO_a0, hK_a0⟩ := WT_obj hW id ha0
  have hF_g := hf_g.get hO_a0
  have hrg : (-2147483648) ≤ g.toInt ∧ g.toInt ≤ 2147483647 := jok_rngI hK_a0 rfl hF_g
  have hF_R := hf_R.get hO_a0
  have hrR : 0 ≤ R.toInt ∧ R.toInt ≤ 20 := jok_rngI hK_a0 rfl hF_R
  have hF_sd := hf_sd.get hO_a0
  have hrsd : (-2147483648) ≤ sd.toInt ∧ sd.toInt ≤ 2147483647 := jok_rngI hK_a0 rfl hF_sd
  have hF_lv := hf_lv.get hO_a0
  have hrlv : 0 ≤ lv.toInt ∧ lv.toInt ≤ 20 := jok_rngI hK_a0 rfl hF_lv
  have hF_cd := hf_cd.get hO_a0
  have hrcd : 0 ≤ cd.toInt ∧ cd.toInt ≤ 20 := jok_rngI hK_a0 rfl hF_cd
  have hF_tg := hf_tg.get hO_a0
  have hrtg : (-2147483648) ≤ tg.toInt ∧ tg.toInt ≤ 2147483647 := jok_rngI hK_a0 rfl hF_tg
  have hF_sp := hf_sp.get hO_a0
  have hrsp : 0 ≤ sp.toInt ∧ sp.toInt ≤ 1 := jok_rngI hK_a0 rfl hF_sp
  have hF_tk := hr_tk.get hO_a0
  obtain ⟨w_tk, hFq_tk, b_tk, hbq_tk, hb_tk⟩ := hK_a0.2 3 (.inr (some (.inl 2))) rfl
  cases hF_tk.symm.trans (hFq_tk.trans (congrArg some hbq_tk))
  have hF_wc := hr_wc.get hO_a0
  obtain ⟨w_wc, hFq_wc, b_wc, hbq_wc, hb_wc⟩ := hK_a0.2 4 (.inr (some (.inl 8))) rfl
  cases hF_wc.symm.trans (hFq_wc.trans (congrArg some hbq_wc))
  have hF_sq := hr_sq.get hO_a0
  obtain ⟨w_sq, hFq_sq, b_sq, hbq_sq, hb_sq⟩ := hK_a0.2 5 (.inr (some (.inl 1))) rfl
  cases hF_sq.symm.trans (hFq_sq.trans (congrArg some hbq_sq))
  have hF_rc := hr_rc.get hO_a0
  obtain ⟨w_rc, hFq_rc, b_rc, hbq_rc, hb_rc⟩ := hK_a0.2 6 (.inr (some (.inl 37))) rfl
  cases hF_rc.symm.trans (hFq_rc.trans (congrArg some hbq_rc))
  have hF_bc := hr_bc.get hO_a0
  obtain ⟨w_bc, hFq_bc, b_bc, hbq_bc, hb_bc⟩ := hK_a0.2 7 (.inr (some (.inl 38))) rfl
  cases hF_bc.symm.trans (hFq_bc.trans (congrArg some hbq_bc))
  obtain ⟨hN_TK, hv_TK⟩ := WT_rngI (r := (0, 1)) hW id rfl ha_TK
  clear hN_TK
  obtain ⟨hN_WC, hv_WC⟩ := WT_rngI (r := ((-2147483648), 2147483647)) hW id rfl ha_WC
  clear hN_WC
  obtain ⟨hN_RC, hv_RC⟩ := WT_rngI (r := ((-2147483648), 2147483647)) hW id rfl ha_RC
  clear hN_RC
  obtain ⟨hN_BC, hv_BC⟩ := WT_rngI (r := ((-2147483648), 2147483647)) hW id rfl ha_BC
  clear hN_BC
  have hjR := jRg_cases g.toInt
  have hjd := jdir_cases g.toInt
  have hmem : (x2.toInt, x3.toInt, x4.toInt) ∈ l := by have q := jhd_mem hp12; rw [hp13] at q; exact q
  have hhb := hp14 _ hmem
  dsimp only at hhb
  refine J_aload_n dX4_extend_0 rfl ?_
  refine J_get jf_X4_45 dX4_extend_1 hO_a0 hF_g ?_
  refine J_istore dX4_extend_4 rfl (by decide) ?_
  refine J_iload dX4_extend_6 rfl ?_
  refine J_callS1 moX0_directions jw_ml_X4_78 jw_st_X0_directions dX4_extend_8 (w_X0_directions_z (d - 1) _ g (by omega)   ) (by omega) (Nat.zero_le _) (Nat.zero_le _) (Nat.le_of_ble_eq_true rfl) (fun r8 V8 h8 => ?_)
  obtain ⟨⟨y8, rfl, hl8, hh8, hP8_0⟩, hE8⟩ := h8
  have hE8 := hE8.symm
  subst hE8
  have hz8 : jEq y8.toInt (jdir (g.toInt)) := hP8_0
  simp only [hP8_0] at hl8 hh8
  clear hP8_0
  refine J_istore dX4_extend_11 rfl (by decide) ?_
  refine Jz_iconst 0 dX4_extend_13 (by decide) (fun y13 he13 => ?_)
  refine J_istore dX4_extend_14 rfl (by decide) ?_
  have L16 : ∀ (N : Nat) (V : jH) (i8n16 : Int32) (gs16a0 : List Value) (g13n16 : Int32) (F2n16 : Nat → Int32) (F8n16 : Nat → Int32) (F1n16 : Nat → Int64) (F37n16 : Nat → Int32) (F38n16 : Nat → Int32), WT V → jeff [.inr 2, .inl 1, .inl 2, .inl 8, .inl 37, .inl 38] V0 V → (jis V (.inr 2) a0) → (jis V (.inl 2) tk) → (jis V (.inl 8) wc) → (jis V (.inl 1) sq) → (jis V (.inl 37) rc) → (jis V (.inl 38) bc) → (jfp [a0, tk, wc, sq, rc, bc] V0 V) → (V a0 = some (.inr (2, gs16a0))) → (gs16a0[0]? = some (.int g)) → (gs16a0[1]? = some (.int R)) → (gs16a0[2]? = some (.int sd)) → (gs16a0[10]? = some (.int lv)) → (gs16a0[11]? = some (.int cd)) → (gs16a0[12]? = some (.int tg)) → (gs16a0[13]? = some (.int g13n16)) → (gs16a0[3]? = some (.ref tk)) → (gs16a0[4]? = some (.ref wc)) → (gs16a0[5]? = some (.ref sq)) → (gs16a0[6]? = some (.ref rc)) → (gs16a0[7]? = some (.ref bc)) → (V tk = some (.inl (2, ln, .inl F2n16))) → (V wc = some (.inl (8, 21, .inl F8n16))) → (V sq = some (.inl (1, 21, .inr (.inl F1n16)))) → (V rc = some (.inl (37, 21, .inl F37n16))) → (V bc = some (.inl (38, 21, .inl F38n16))) → (0 ≤ i8n16.toInt ∧ i8n16.toInt ≤ jdir g.toInt) → (jtk g.toInt F2n16 l) → (jfe (jdir g.toInt).toNat (jcs g.toInt (jcw g.toInt (jfzs g.toInt tg.toInt) (lv.toInt - x1.toInt - 1).toNat) l) (jdir g.toInt - i8n16.toInt).toNat (jac F8n16 F1n16 F37n16 F38n16 lv.toInt.toNat) = jcw g.toInt (jfzs g.toInt tg.toInt) (lv.toInt - x1.toInt).toNat l (jac WC SQ RC BC lv.toInt.toNat)) → (0 ≤ (F8n16 lv.toInt.toNat).toInt ∧ (F8n16 lv.toInt.toNat).toInt ≤ 600001 - tg.toInt) → (((g13n16.toInt = 1 ∧ 600000 < tg.toInt + (F8n16 lv.toInt.toNat).toInt) ∨ (g13n16.toInt = 0 ∧ ¬ 600000 < tg.toInt + (F8n16 lv.toInt.toNat).toInt))) → (jot F8n16 F1n16 F37n16 F38n16 WC SQ RC BC lv.toInt.toNat) → (300 - i8n16.toInt).toNat < N → J tS mX4_extend d 16 [some (.ref a0), some (.int x1), some (.int x2), some (.int x3), some (.int x4), some (.int x5), some (.int g), some (.int y8), some (.int i8n16), none, none, none, none, none] [] V 0 0 (fun r V => (jPost [.inr 2, .inl 1, .inl 2, .inl 8, .inl 37, .inl 38] V0 rV) r V ∧ (∃ (TK2 WC2 : Nat → Int32) (SQ2 : Nat → Int64) (RC2 BC2 : Nat → Int32) (sp2 : Int32), V tk = some (.inl (2, ln, .inl TK2)) ∧ V wc = some (.inl (8, 21, .inl WC2)) ∧ V sq = some (.inl (1, 21, .inr (.inl SQ2))) ∧ V rc = some (.inl (37, 21, .inl RC2)) ∧ V bc = some (.inl (38, 21, .inl BC2)) ∧ jfI V a0 2 13 sp2 ∧ jtk g.toInt TK2 l ∧ jac WC2 SQ2 RC2 BC2 lv.toInt.toNat = jcw g.toInt (jfzs g.toInt tg.toInt) (lv.toInt - x1.toInt).toNat l (jac WC SQ RC BC lv.toInt.toNat) ∧ 0 ≤ (WC2 lv.toInt.toNat).toInt ∧ (WC2 lv.toInt.toNat).toInt ≤ 600001 - tg.toInt ∧ ((sp2.toInt = 1 ∧ 600000 < tg.toInt + (WC2 lv.toInt.toNat).toInt) ∨ (sp2.toInt = 0 ∧ ¬ 600000 < tg.toInt + (WC2 lv.toInt.toNat).toInt)) ∧ jot WC2 SQ2 RC2 BC2 WC SQ RC BC lv.toInt.toNat) ∧ jfp [a0, tk, wc, sq, rc, bc] V0 V ∧ (∃ g2 : Int32, jfI V a0 2 0 g2 ∧ (g2.toInt = g.toInt)) ∧ (∃ R2 : Int32, jfI V a0 2 1 R2 ∧ (R2.toInt = R.toInt)) ∧ (∃ sd2 : Int32, jfI V a0 2 2 sd2 ∧ (sd2.toInt = sd.toInt)) ∧ (∃ lv2 : Int32, jfI V a0 2 10 lv2 ∧ (lv2.toInt = lv.toInt)) ∧ (∃ cd2 : Int32, jfI V a0 2 11 cd2 ∧ (cd2.toInt = cd.toInt)) ∧ (∃ tg2 : Int32, jfI V a0 2 12 tg2 ∧ (tg2.toInt = tg.toInt))) := by
    intro N
    induction N with
    | zero => intro V i8n16 gs16a0 g13n16 F2n16 F8n16 F1n16 F37n16 F38n16 hW he ha0 hb_tk hb_wc hb_sq hb_rc hb_bc hfp hOgs16a0 hFgs16a0_0 hFgs16a0_1 hFgs16a0_2 hFgs16a0_10 hFgs16a0_11 hFgs16a0_12 hFgs16a0_13 hFgs16a0_3 hFgs16a0_4 hFgs16a0_5 hFgs16a0_6 hFgs16a0_7 hAF2n16 hAF8n16 hAF1n16 hAF37n16 hAF38n16 hi8 htk hacc hwc hsp hoth hm; exact absurd hm (Nat.not_lt_zero _)
    | succ N ih =>
      intro V i8n16 gs16a0 g13n16 F2n16 F8n16 F1n16 F37n16 F38n16 hW he ha0 hb_tk hb_wc hb_sq hb_rc hb_bc hfp hOgs16a0 hFgs16a0_0 hFgs16a0_1 hFgs16a0_2 hFgs16a0_10 hFgs16a0_11 hFgs16a0_12 hFgs16a0_13 hFgs16a0_3 hFgs16a0_4 hFgs16a0_5 hFgs16a0_6 hFgs16a0_7 hAF2n16 hAF8n16 hAF1n16 hAF37n16 hAF38n16 hi8 htk hacc hwc hsp hoth hm
      have ih16 := ih
      have hri8 := j_rng i8n16
      have hKgs16a0 : jokO V (jFs 2) gs16a0 := hW _ _ id hOgs16a0
      have hrgg13n16 : 0 ≤ g13n16.toInt ∧ g13n16.toInt ≤ 1 := jok_rngI hKgs16a0 rfl hFgs16a0_13
      obtain ⟨hNF2n16, hvF2n16⟩ := WT_rngI (r := (0, 1)) hW id rfl hAF2n16
      clear hNF2n16
      obtain ⟨hNF8n16, hvF8n16⟩ := WT_rngI (r := ((-2147483648), 2147483647)) hW id rfl hAF8n16
      clear hNF8n16
      obtain ⟨hNF37n16, hvF37n16⟩ := WT_rngI (r := ((-2147483648), 2147483647)) hW id rfl hAF37n16
      clear hNF37n16
      obtain ⟨hNF38n16, hvF38n16⟩ := WT_rngI (r := ((-2147483648), 2147483647)) hW id rfl hAF38n16
      clear hNF38n16
      refine J_iload dX4_extend_16 rfl ?_
      refine J_iload dX4_extend_18 rfl ?_
      refine Jz_icmp_ge (tgt := 170) jEq.rf hz8 dX4_extend_20 (by decide) (fun c20 => ?_) (fun c20 => ?_)
      · exact J_ret (r := none) dX4_extend_170 ⟨rfl, rfl⟩ (⟨⟨hW, he, rfl⟩, ⟨F2n16, F8n16, F1n16, F37n16, F38n16, g13n16, hAF2n16, hAF8n16, hAF1n16, hAF37n16, hAF38n16, ⟨_, hOgs16a0, hFgs16a0_13⟩, htk, (by first | (rw [show (jdir g.toInt - i8n16.toInt).toNat = 0 by omega] at hacc; exact hacc) | exact (jfz_stope (π := fun a : jA4 => a.1) (s := jsc g.toInt) (show (600000 - tg.toInt).toNat < (F8n16 lv.toInt.toNat).toInt.toNat by omega) (by omega)).symm.trans hacc), hwc.1, hwc.2, hsp, hoth⟩, hfp, ⟨_, ⟨_, hOgs16a0, hFgs16a0_0⟩, (by omega)⟩, ⟨_, ⟨_, hOgs16a0, hFgs16a0_1⟩, (by omega)⟩, ⟨_, ⟨_, hOgs16a0, hFgs16a0_2⟩, (by omega)⟩, ⟨_, ⟨_, hOgs16a0, hFgs16a0_10⟩, (by omega)⟩, ⟨_, ⟨_, hOgs16a0, hFgs16a0_11⟩, (by omega)⟩, ⟨_, ⟨_, hOgs16a0, hFgs16a0_12⟩, (by omega)⟩⟩)
      · refine J_aload_n dX4_extend_23 rfl ?_
        refine J_get jf_X4_41 dX4_extend_24 hOgs16a0 hFgs16a0_13 ?_
        refine Jz_if_ne (tgt := 170) jEq.rf dX4_extend_27 (by decide) (fun c27 => ?_) (fun c27 => ?_)
        · exact J_ret (r := none) dX4_extend_170 ⟨rfl, rfl⟩ (⟨⟨hW, he, rfl⟩, ⟨F2n16, F8n16, F1n16, F37n16, F38n16, g13n16, hAF2n16, hAF8n16, hAF1n16, hAF37n16, hAF38n16, ⟨_, hOgs16a0, hFgs16a0_13⟩, htk, (by first | (rw [show (jdir g.toInt - i8n16.toInt).toNat = 0 by omega] at hacc; exact hacc) | exact (jfz_stope (π := fun a : jA4 => a.1) (s := jsc g.toInt) (show (600000 - tg.toInt).toNat < (F8n16 lv.toInt.toNat).toInt.toNat by omega) (by omega)).symm.trans hacc), hwc.1, hwc.2, hsp, hoth⟩, hfp, ⟨_, ⟨_, hOgs16a0, hFgs16a0_0⟩, (by omega)⟩, ⟨_, ⟨_, hOgs16a0, hFgs16a0_1⟩, (by omega)⟩, ⟨_, ⟨_, hOgs16a0, hFgs16a0_2⟩, (by omega)⟩, ⟨_, ⟨_, hOgs16a0, hFgs16a0_10⟩, (by omega)⟩, ⟨_, ⟨_, hOgs16a0, hFgs16a0_11⟩, (by omega)⟩, ⟨_, ⟨_, hOgs16a0, hFgs16a0_12⟩, (by omega)⟩⟩)
        · have hbx := jsx_b g.toInt i8n16.toInt
          have hby := jsy_b g.toInt i8n16.toInt (x2.toInt + x3.toInt)
          have hbz := jsz_b g.toInt i8n16.toInt
          have hPin : jin g.toInt (jnx g.toInt i8n16.toInt (x2.toInt, x3.toInt, x4.toInt)) := hp14.next hmem (by omega)
          have hcb : 0 ≤ jcell g.toInt ((x2.toInt + jsx g.toInt i8n16.toInt), (x3.toInt + jsy g.toInt i8n16.toInt (x2.toInt + x3.toInt)), (x4.toInt + jsz g.toInt i8n16.toInt)) ∧ jcell g.toInt ((x2.toInt + jsx g.toInt i8n16.toInt), (x3.toInt + jsy g.toInt i8n16.toInt (x2.toInt + x3.toInt)), (x4.toInt + jsz g.toInt i8n16.toInt)) < jLg g.toInt := jcell_b hPin
          have hst : (jdir g.toInt - i8n16.toInt).toNat = (jdir g.toInt - (i8n16.toInt + 1)).toNat + 1 := by omega
          have hjs := jfe_step (n := (jdir g.toInt).toNat) (c := (jdir g.toInt - (i8n16.toInt + 1)).toNat) (d := i8n16.toInt.toNat) (f := (jcs g.toInt (jcw g.toInt (jfzs g.toInt tg.toInt) (lv.toInt - x1.toInt - 1).toNat) l)) (a := jac F8n16 F1n16 F37n16 F38n16 lv.toInt.toNat) (by omega)
          rw [← hst, hacc] at hjs
          refine J_iload_n dX4_extend_30 rfl ?_
          refine J_iload dX4_extend_31 rfl ?_
          refine J_iload dX4_extend_33 rfl ?_
          refine J_callS2 moX0_shiftX jw_ml_X4_84 jw_st_X0_shiftX dX4_extend_35 (w_X0_shiftX_z (d - 1) _ g i8n16 (by omega)   (by omega) (by omega) (by omega) (by omega)) (by omega) (Nat.zero_le _) (Nat.zero_le _) (Nat.le_of_ble_eq_true rfl) (fun r35 V35 h35 => ?_)
          obtain ⟨⟨y35, rfl, hl35, hh35, hP35_0⟩, hE35⟩ := h35
          have hE35 := hE35.symm
          subst hE35
          clear hl35 hh35
          have hz35 : jEq y35.toInt (jsx (g.toInt) (i8n16.toInt)) := hP35_0
          clear hP35_0
          refine Jz_iadd jEq.rf hz35 dX4_extend_38 (by omega) (by omega) (fun y38 he38 => ?_)
          refine J_istore dX4_extend_39 rfl (by decide) ?_
          refine J_iload_n dX4_extend_41 rfl ?_
          refine J_iload dX4_extend_42 rfl ?_
          refine J_iload dX4_extend_44 rfl ?_
          refine J_iload_n dX4_extend_46 rfl ?_
          refine J_iload_n dX4_extend_47 rfl ?_
          refine J_callS4 moX0_shiftY jw_ml_X4_88 jw_st_X0_shiftY dX4_extend_48 (w_X0_shiftY_z (d - 1) _ g i8n16 x2 x3 (by omega)   (by omega) (by omega) (by omega) (by omega) (by omega) (by omega) (by omega) (by omega)) (by omega) (Nat.zero_le _) (Nat.zero_le _) (Nat.le_of_ble_eq_true rfl) (fun r48 V48 h48 => ?_)
          obtain ⟨⟨y48, rfl, hl48, hh48, hP48_0⟩, hE48⟩ := h48
          have hE48 := hE48.symm
          subst hE48
          clear hl48 hh48
          have hz48 : jEq y48.toInt (jsy (g.toInt) (i8n16.toInt) ((x2.toInt) + (x3.toInt))) := hP48_0
          clear hP48_0
          refine Jz_iadd jEq.rf hz48 dX4_extend_51 (by omega) (by omega) (fun y51 he51 => ?_)
          refine J_istore dX4_extend_52 rfl (by decide) ?_
          refine J_iload dX4_extend_54 rfl ?_
          refine J_iload dX4_extend_56 rfl ?_
          refine J_iload dX4_extend_58 rfl ?_
          refine J_callS2 moX0_shiftZ jw_ml_X4_92 jw_st_X0_shiftZ dX4_extend_60 (w_X0_shiftZ_z (d - 1) _ g i8n16 (by omega)   (by omega) (by omega) (by omega) (by omega)) (by omega) (Nat.zero_le _) (Nat.zero_le _) (Nat.le_of_ble_eq_true rfl) (fun r60 V60 h60 => ?_)
          obtain ⟨⟨y60, rfl, hl60, hh60, hP60_0⟩, hE60⟩ := h60
          have hE60 := hE60.symm
          subst hE60
          clear hl60 hh60
          have hz60 : jEq y60.toInt (jsz (g.toInt) (i8n16.toInt)) := hP60_0
          clear hP60_0
          refine Jz_iadd jEq.rf hz60 dX4_extend_63 (by omega) (by omega) (fun y63 he63 => ?_)
          refine J_istore dX4_extend_64 rfl (by decide) ?_
          refine J_aload_n dX4_extend_66 rfl ?_
          refine J_iload dX4_extend_67 rfl ?_
          refine J_iload dX4_extend_69 rfl ?_
          refine J_iload dX4_extend_71 rfl ?_
          refine Jw_callV3 (q9 := (RX4, TX4, 14)) moX4_cellOf jw_ml_X4_62 jw_im_X4_cellOf jw_se_X4_cellOf ha0 rfl rfl dX4_extend_73 (w_X4_cellOf_z (d - 1) _ a0 y38 y51 y63 g R sd (by omega) hW  ha0 ⟨_, hOgs16a0, hFgs16a0_0⟩ ⟨_, hOgs16a0, hFgs16a0_1⟩ ⟨_, hOgs16a0, hFgs16a0_2⟩ (by omega) (by omega) (by omega) (by omega) (by (try simp only [he38.eq, true_and, and_true]) <;> omega) (by (try simp only [he38.eq, true_and, and_true]) <;> omega) (by (try simp only [he51.eq, true_and, and_true]) <;> omega) (by (try simp only [he51.eq, true_and, and_true]) <;> omega) (by (try simp only [he63.eq, true_and, and_true]) <;> omega) (by (try simp only [he63.eq, true_and, and_true]) <;> omega)) (by omega) (Nat.zero_le _) (Nat.zero_le _) (Nat.le_of_ble_eq_true rfl) (fun r73 V73 h73 => ?_)
          obtain ⟨⟨y73, rfl, hl73, hh73, hP73_0⟩, hE73⟩ := h73
          have hE73 := hE73.symm
          subst hE73
          clear hl73 hh73
          try simp only [he38.eq, he51.eq, he63.eq] at hP73_0
          have hz73 : jEq y73.toInt (jcell (g.toInt) ((x2.toInt + (jsx (g.toInt) (i8n16.toInt))), (x3.toInt + (jsy (g.toInt) (i8n16.toInt) ((x2.toInt) + (x3.toInt)))), (x4.toInt + (jsz (g.toInt) (i8n16.toInt))))) := hP73_0
          clear hP73_0
          refine J_istore dX4_extend_76 rfl (by decide) ?_
          refine J_aload_n dX4_extend_78 rfl ?_
          refine J_iload dX4_extend_79 rfl ?_
          refine Jw_callV1 (q9 := (RX4, TX4, 14)) moX4_isTaken jw_ml_X4_95 jw_im_X4_isTaken jw_se_X4_isTaken ha0 rfl rfl dX4_extend_81 (w_X4_isTaken_z (d - 1) _ a0 y73 tk F2n16 (by omega) hW  ha0 ⟨_, hOgs16a0, hFgs16a0_3⟩ hAF2n16 (by (try simp only [hz73.eq, true_and, and_true]) <;> omega) (by (try simp only [hz73.eq, true_and, and_true]) <;> omega) (by omega)) (by omega) (Nat.zero_le _) (Nat.zero_le _) (Nat.le_of_ble_eq_true rfl) (fun r81 V81 h81 => ?_)
          obtain ⟨⟨y81, rfl, hl81, hh81, hP81_0⟩, hE81⟩ := h81
          have hE81 := hE81.symm
          subst hE81
          try simp only [hz73.eq] at hP81_0
          have htq : (F2n16 (jcell g.toInt ((x2.toInt + jsx g.toInt i8n16.toInt), (x3.toInt + jsy g.toInt i8n16.toInt (x2.toInt + x3.toInt)), (x4.toInt + jsz g.toInt i8n16.toInt))).toNat).toInt = 0 ↔ ¬ (jnx g.toInt i8n16.toInt (x2.toInt, x3.toInt, x4.toInt)) ∈ l := htk _ hPin
          refine Jz_if_eq (tgt := 90) jEq.rf dX4_extend_84 (by decide) (fun c84 => ?_) (fun c84 => ?_)
          · have hnin : ¬ (jnx g.toInt i8n16.toInt (x2.toInt, x3.toInt, x4.toInt)) ∈ l := htq.mp (hP81_0.elim (fun q => absurd q.1 (by omega)) (fun q => q.2))
            have hnr2 : jnr g.toInt (x1.toInt + 1) ((jnx g.toInt i8n16.toInt (x2.toInt, x3.toInt, x4.toInt)) :: l) := hp14.step hmem
            have htc : jtpc ((jnx g.toInt i8n16.toInt (x2.toInt, x3.toInt, x4.toInt)) :: l) = if (x2.toInt + jsx g.toInt i8n16.toInt) ≤ 0 then 1000 else if jtpc l < (x2.toInt + jsx g.toInt i8n16.toInt) then (x2.toInt + jsx g.toInt i8n16.toInt) else jtpc l := jtpc_step (m := x1.toInt.toNat) hp12 (by omega) (by omega) hnr2
            refine J_iload dX4_extend_90 rfl ?_
            have K108 : ∀ (t0k108 : Int32), (t0k108.toInt = jtpc ((jnx g.toInt i8n16.toInt (x2.toInt, x3.toInt, x4.toInt)) :: l)) → J tS mX4_extend d 108 [some (.ref a0), some (.int x1), some (.int x2), some (.int x3), some (.int x4), some (.int x5), some (.int g), some (.int y8), some (.int i8n16), some (.int y38), some (.int y51), some (.int y63), some (.int y73), none] [.int t0k108] V 0 0 (fun r V => (jPost [.inr 2, .inl 1, .inl 2, .inl 8, .inl 37, .inl 38] V0 rV) r V ∧ (∃ (TK2 WC2 : Nat → Int32) (SQ2 : Nat → Int64) (RC2 BC2 : Nat → Int32) (sp2 : Int32), V tk = some (.inl (2, ln, .inl TK2)) ∧ V wc = some (.inl (8, 21, .inl WC2)) ∧ V sq = some (.inl (1, 21, .inr (.inl SQ2))) ∧ V rc = some (.inl (37, 21, .inl RC2)) ∧ V bc = some (.inl (38, 21, .inl BC2)) ∧ jfI V a0 2 13 sp2 ∧ jtk g.toInt TK2 l ∧ jac WC2 SQ2 RC2 BC2 lv.toInt.toNat = jcw g.toInt (jfzs g.toInt tg.toInt) (lv.toInt - x1.toInt).toNat l (jac WC SQ RC BC lv.toInt.toNat) ∧ 0 ≤ (WC2 lv.toInt.toNat).toInt ∧ (WC2 lv.toInt.toNat).toInt ≤ 600001 - tg.toInt ∧ ((sp2.toInt = 1 ∧ 600000 < tg.toInt + (WC2 lv.toInt.toNat).toInt) ∨ (sp2.toInt = 0 ∧ ¬ 600000 < tg.toInt + (WC2 lv.toInt.toNat).toInt)) ∧ jot WC2 SQ2 RC2 BC2 WC SQ RC BC lv.toInt.toNat) ∧ jfp [a0, tk, wc, sq, rc, bc] V0 V ∧ (∃ g2 : Int32, jfI V a0 2 0 g2 ∧ (g2.toInt = g.toInt)) ∧ (∃ R2 : Int32, jfI V a0 2 1 R2 ∧ (R2.toInt = R.toInt)) ∧ (∃ sd2 : Int32, jfI V a0 2 2 sd2 ∧ (sd2.toInt = sd.toInt)) ∧ (∃ lv2 : Int32, jfI V a0 2 10 lv2 ∧ (lv2.toInt = lv.toInt)) ∧ (∃ cd2 : Int32, jfI V a0 2 11 cd2 ∧ (cd2.toInt = cd.toInt)) ∧ (∃ tg2 : Int32, jfI V a0 2 12 tg2 ∧ (tg2.toInt = tg.toInt))) := by
              intro  t0k108     hk108_0
              refine J_istore dX4_extend_108 rfl (by decide) ?_
              refine J_iload_n dX4_extend_110 rfl ?_
              refine Jz_iconst 1 dX4_extend_111 (by decide) (fun y111 he111 => ?_)
              refine Jz_iadd jEq.rf he111 dX4_extend_112 (by omega) (by omega) (fun y112 he112 => ?_)
              refine J_aload_n dX4_extend_113 rfl ?_
              refine J_get jf_X4_31 dX4_extend_114 hOgs16a0 hFgs16a0_10 ?_
              refine Jz_icmp_lt (tgt := 135) he112 jEq.rf dX4_extend_117 (by decide) (fun c117 => ?_) (fun c117 => ?_)
              · refine J_aload_n dX4_extend_135 rfl ?_
                refine J_iload dX4_extend_136 rfl ?_
                refine Jz_iconst 1 dX4_extend_138 (by decide) (fun y138 he138 => ?_)
                refine Jw_callV2 (q9 := (RX4, TX4, 14)) moX4_setTaken jw_ml_X4_66 jw_im_X4_setTaken jw_se_X4_setTaken ha0 rfl rfl dX4_extend_139 (w_X4_setTaken_z (d - 1) _ a0 y73 y138 tk F2n16 (by omega) hW  ha0 (by (try simp only [he138.eq, true_and, and_true]) <;> omega) (by (try simp only [he138.eq, true_and, and_true]) <;> omega) ⟨_, hOgs16a0, hFgs16a0_3⟩ hAF2n16 (by rw [hz73.eq]; omega) (by rw [hz73.eq]; omega) (by omega)) (by omega) (Nat.zero_le _) (Nat.zero_le _) (Nat.le_of_ble_eq_true rfl) (fun r139 V139 h139 => ?_)
                obtain ⟨h139, hX139_0, hX139_1⟩ := h139
                obtain ⟨hW, hx139, hr139⟩ := h139
                have he := he.trans (hx139.sub (jsub_of rfl))
                have hfp := hfp.trans (hX139_1.sub (fun b hb => by simp only [List.mem_cons, List.not_mem_nil, or_false] at hb ⊢; omega))
                have ha0 := ha0.mono hx139.1
                have hb_tk := hb_tk.mono hx139.1
                have hb_wc := hb_wc.mono hx139.1
                have hb_sq := hb_sq.mono hx139.1
                have hb_rc := hb_rc.mono hx139.1
                have hb_bc := hb_bc.mono hx139.1
                have hOgs16a0 := hx139.2 _ _ hOgs16a0 (jnot_of rfl)
                have hKgs16a0 := hKgs16a0.mono hx139.1
                have hAF8n16 := hx139.2 _ _ hAF8n16 (jnot_of rfl)
                have hAF1n16 := hx139.2 _ _ hAF1n16 (jnot_of rfl)
                have hAF37n16 := hx139.2 _ _ hAF37n16 (jnot_of rfl)
                have hAF38n16 := hx139.2 _ _ hAF38n16 (jnot_of rfl)
                cases hr139
                obtain ⟨TK139, hTa139, hTn139, hTo139⟩ := hX139_0
                simp only [hz73.eq] at hTn139 hTo139
                have htk139 : jtk g.toInt TK139 ((jnx g.toInt i8n16.toInt (x2.toInt, x3.toInt, x4.toInt)) :: l) := htk.set hPin (by show ¬ (TK139 (jcell g.toInt ((x2.toInt + jsx g.toInt i8n16.toInt), (x3.toInt + jsy g.toInt i8n16.toInt (x2.toInt + x3.toInt)), (x4.toInt + jsz g.toInt i8n16.toInt))).toNat).toInt = 0; rw [hTn139, he138.eq]; decide) hTo139
                obtain ⟨hN_TK139, hv_TK139⟩ := WT_rngI (r := (0, 1)) hW id rfl hTa139
                clear hN_TK139
                refine J_aload_n dX4_extend_142 rfl ?_
                refine J_iload_n dX4_extend_143 rfl ?_
                refine Jz_iconst 1 dX4_extend_144 (by decide) (fun y144 he144 => ?_)
                refine Jz_iadd jEq.rf he144 dX4_extend_145 (by omega) (by omega) (fun y145 he145 => ?_)
                refine J_iload dX4_extend_146 rfl ?_
                refine J_iload dX4_extend_148 rfl ?_
                refine J_iload dX4_extend_150 rfl ?_
                refine J_iload dX4_extend_152 rfl ?_
                refine J_callS6 moX4_extend jw_ml_X4_70 jw_st_X4_extend dX4_extend_154 (IH (d - 1) _ a0 y145 y38 y51 y63 t0k108 g R sd lv cd tg g13n16 tk wc sq rc bc ln ((jnx g.toInt i8n16.toInt (x2.toInt, x3.toInt, x4.toInt)) :: l) TK139 F8n16 F1n16 F37n16 F38n16 (by omega) hW ha0 (by (try simp only [he145.eq, true_and, and_true]) <;> omega) (by (try simp only [he145.eq, true_and, and_true]) <;> omega) ⟨_, hOgs16a0, hFgs16a0_0⟩ ⟨_, hOgs16a0, hFgs16a0_1⟩ ⟨_, hOgs16a0, hFgs16a0_2⟩ ⟨_, hOgs16a0, hFgs16a0_10⟩ ⟨_, hOgs16a0, hFgs16a0_11⟩ ⟨_, hOgs16a0, hFgs16a0_12⟩ ⟨_, hOgs16a0, hFgs16a0_13⟩ ⟨_, hOgs16a0, hFgs16a0_3⟩ ⟨_, hOgs16a0, hFgs16a0_4⟩ ⟨_, hOgs16a0, hFgs16a0_5⟩ ⟨_, hOgs16a0, hFgs16a0_6⟩ ⟨_, hOgs16a0, hFgs16a0_7⟩ hTa139 hAF8n16 hAF1n16 hAF37n16 hAF38n16 (by omega) (by omega) (by omega) (by omega) (by omega) (by rw [he145.eq]; omega) (by omega) (by omega) (by omega) (by omega) (by omega) (by omega) (by rw [List.length_cons, hp12, he145.eq]; omega) (by rw [he38.eq, he51.eq, he63.eq]; rfl) (by rw [he145.eq]; exact hnr2) htk139 hk108_0 (by (try simp only [he145.eq, he38.eq, he51.eq, he63.eq, true_and, and_true]) <;> omega)) (by omega) (Nat.zero_le _) (Nat.zero_le _) (Nat.le_of_ble_eq_true rfl) (fun r154 V154 h154 => ?_)
                obtain ⟨h154, hX154_0, hX154_1, ⟨fv154_0, hfv154_0, hfp154_0⟩, ⟨fv154_1, hfv154_1, hfp154_1⟩, ⟨fv154_2, hfv154_2, hfp154_2⟩, ⟨fv154_3, hfv154_3, hfp154_3⟩, ⟨fv154_4, hfv154_4, hfp154_4⟩, ⟨fv154_5, hfv154_5, hfp154_5⟩⟩ := h154
                obtain ⟨hW, hx154, hr154⟩ := h154
                have he := he.trans (hx154.sub (jsub_of rfl))
                have hfp := hfp.trans (hX154_1.sub (fun b hb => by simp only [List.mem_cons, List.not_mem_nil, or_false] at hb ⊢; omega))
                have ha0 := ha0.mono hx154.1
                have hb_tk := hb_tk.mono hx154.1
                have hb_wc := hb_wc.mono hx154.1
                have hb_sq := hb_sq.mono hx154.1
                have hb_rc := hb_rc.mono hx154.1
                have hb_bc := hb_bc.mono hx154.1
                obtain ⟨fs154a0, hOfs154a0, hRfs154a0⟩ := hx154.1.keep hOgs16a0
                have hKfs154a0 : jokO _ (jFs 2) fs154a0 := hW _ _ id hOfs154a0
                have hFfs154a0_3 := hRfs154a0 _ _ hFgs16a0_3
                have hFfs154a0_4 := hRfs154a0 _ _ hFgs16a0_4
                have hFfs154a0_5 := hRfs154a0 _ _ hFgs16a0_5
                have hFfs154a0_6 := hRfs154a0 _ _ hFgs16a0_6
                have hFfs154a0_7 := hRfs154a0 _ _ hFgs16a0_7
                cases hr154
                have hFv154_0 := hfv154_0.get hOfs154a0
                try simp only [he145.eq, he38.eq, he51.eq, he63.eq] at hfp154_0
                have hsb154_0 : g = fv154_0 := (jI_inj.mp hfp154_0).symm
                subst hsb154_0
                have hFv154_1 := hfv154_1.get hOfs154a0
                try simp only [he145.eq, he38.eq, he51.eq, he63.eq] at hfp154_1
                have hsb154_1 : R = fv154_1 := (jI_inj.mp hfp154_1).symm
                subst hsb154_1
                have hFv154_2 := hfv154_2.get hOfs154a0
                try simp only [he145.eq, he38.eq, he51.eq, he63.eq] at hfp154_2
                have hsb154_2 : sd = fv154_2 := (jI_inj.mp hfp154_2).symm
                subst hsb154_2
                have hFv154_3 := hfv154_3.get hOfs154a0
                try simp only [he145.eq, he38.eq, he51.eq, he63.eq] at hfp154_3
                have hsb154_3 : lv = fv154_3 := (jI_inj.mp hfp154_3).symm
                subst hsb154_3
                have hFv154_4 := hfv154_4.get hOfs154a0
                try simp only [he145.eq, he38.eq, he51.eq, he63.eq] at hfp154_4
                have hsb154_4 : cd = fv154_4 := (jI_inj.mp hfp154_4).symm
                subst hsb154_4
                have hFv154_5 := hfv154_5.get hOfs154a0
                try simp only [he145.eq, he38.eq, he51.eq, he63.eq] at hfp154_5
                have hsb154_5 : tg = fv154_5 := (jI_inj.mp hfp154_5).symm
                subst hsb154_5
                obtain ⟨TK154, WC154, SQ154, RC154, BC154, sp154, hTa154, hWa154, hSa154, hRa154, hBa154, hspf154, htk154, hea, hew0, hew1, hes, heo⟩ := hX154_0
                rw [he145.eq, show (lv.toInt - (x1.toInt + 1)).toNat = (lv.toInt - x1.toInt - 1).toNat by omega] at hea
                have hFv15413 := hspf154.get hOfs154a0
                obtain ⟨hN_TK154, hv_TK154⟩ := WT_rngI (r := (0, 1)) hW id rfl hTa154
                clear hN_TK154
                obtain ⟨hN_WC154, hv_WC154⟩ := WT_rngI (r := ((-2147483648), 2147483647)) hW id rfl hWa154
                clear hN_WC154
                obtain ⟨hN_RC154, hv_RC154⟩ := WT_rngI (r := ((-2147483648), 2147483647)) hW id rfl hRa154
                clear hN_RC154
                obtain ⟨hN_BC154, hv_BC154⟩ := WT_rngI (r := ((-2147483648), 2147483647)) hW id rfl hBa154
                clear hN_BC154
                refine J_aload_n dX4_extend_157 rfl ?_
                refine J_iload dX4_extend_158 rfl ?_
                refine Jz_iconst 0 dX4_extend_160 (by decide) (fun y160 he160 => ?_)
                refine Jw_callV2 (q9 := (RX4, TX4, 14)) moX4_setTaken jw_ml_X4_66 jw_im_X4_setTaken jw_se_X4_setTaken ha0 rfl rfl dX4_extend_161 (w_X4_setTaken_z (d - 1) _ a0 y73 y160 tk TK154 (by omega) hW  ha0 (by (try simp only [he160.eq, true_and, and_true]) <;> omega) (by (try simp only [he160.eq, true_and, and_true]) <;> omega) ⟨_, hOfs154a0, hFfs154a0_3⟩ hTa154 (by rw [hz73.eq]; omega) (by rw [hz73.eq]; omega) (by omega)) (by omega) (Nat.zero_le _) (Nat.zero_le _) (Nat.le_of_ble_eq_true rfl) (fun r161 V161 h161 => ?_)
                obtain ⟨h161, hX161_0, hX161_1⟩ := h161
                obtain ⟨hW, hx161, hr161⟩ := h161
                have he := he.trans (hx161.sub (jsub_of rfl))
                have hfp := hfp.trans (hX161_1.sub (fun b hb => by simp only [List.mem_cons, List.not_mem_nil, or_false] at hb ⊢; omega))
                have ha0 := ha0.mono hx161.1
                have hb_tk := hb_tk.mono hx161.1
                have hb_wc := hb_wc.mono hx161.1
                have hb_sq := hb_sq.mono hx161.1
                have hb_rc := hb_rc.mono hx161.1
                have hb_bc := hb_bc.mono hx161.1
                have hOfs154a0 := hx161.2 _ _ hOfs154a0 (jnot_of rfl)
                have hKfs154a0 := hKfs154a0.mono hx161.1
                have hWa154 := hx161.2 _ _ hWa154 (jnot_of rfl)
                have hSa154 := hx161.2 _ _ hSa154 (jnot_of rfl)
                have hRa154 := hx161.2 _ _ hRa154 (jnot_of rfl)
                have hBa154 := hx161.2 _ _ hBa154 (jnot_of rfl)
                cases hr161
                obtain ⟨TK161, hTa161, hTn161, hTo161⟩ := hX161_0
                simp only [hz73.eq] at hTn161 hTo161
                have htk2 : jtk g.toInt TK161 l := htk154.clr hnin hPin (by show (TK161 (jcell g.toInt ((x2.toInt + jsx g.toInt i8n16.toInt), (x3.toInt + jsy g.toInt i8n16.toInt (x2.toInt + x3.toInt)), (x4.toInt + jsz g.toInt i8n16.toInt))).toNat).toInt = 0; rw [hTn161, he160.eq]) hTo161
                obtain ⟨hN_TK161, hv_TK161⟩ := WT_rngI (r := (0, 1)) hW id rfl hTa161
                clear hN_TK161
                refine Jz_iinc 1 dX4_extend_164 rfl rfl (by decide) jEq.rf (by decide) (by omega) (by omega) (fun y164 he164 => ?_)
                refine J_goto (tgt := 16) dX4_extend_167 (by decide) ?_
                refine J.mask [true, true, true, true, true, true, true, true, true, false, false, false, false, false] ?_
                exact ih16 _ y164 fs154a0 sp154 TK161 WC154 SQ154 RC154 BC154 hW he ha0 hb_tk hb_wc hb_sq hb_rc hb_bc hfp hOfs154a0 hFv154_0 hFv154_1 hFv154_2 hFv154_3 hFv154_4 hFv154_5 hFv15413 hFfs154a0_3 hFfs154a0_4 hFfs154a0_5 hFfs154a0_6 hFfs154a0_7 hTa161 hWa154 hSa154 hRa154 hBa154 (by (try simp only [he164.eq, true_and, and_true]) <;> omega) htk2 (by rw [he164.eq, hjs, jcs_no (by rw [hp13, show ((i8n16.toInt.toNat : Nat) : Int) = i8n16.toInt from Int.toNat_of_nonneg (by omega)]; exact hnin), hp13, show ((i8n16.toInt.toNat : Nat) : Int) = i8n16.toInt from Int.toNat_of_nonneg (by omega), hea]) (by (try simp only [he164.eq, true_and, and_true]) <;> omega) (by (try simp only [he164.eq, true_and, and_true]) <;> omega) (hoth.trans heo) (by (try simp only [he164.eq, true_and, and_true]) <;> omega)
              · refine J_aload_n dX4_extend_120 rfl ?_
                refine J_iload dX4_extend_121 rfl ?_
                refine J_iload dX4_extend_123 rfl ?_
                refine J_iload dX4_extend_125 rfl ?_
                refine J_iload dX4_extend_127 rfl ?_
                refine Jw_callV4 (q9 := (RX4, TX4, 14)) moX4_score jw_ml_X4_104 jw_im_X4_score jw_se_X4_score ha0 rfl rfl dX4_extend_129 (w_X4_score_z (d - 1) _ a0 y38 y51 y63 t0k108 g R sd lv cd tg wc sq rc bc ((jnx g.toInt i8n16.toInt (x2.toInt, x3.toInt, x4.toInt)) :: l) F8n16 F1n16 F37n16 F38n16 (by omega) hW  ha0 ⟨_, hOgs16a0, hFgs16a0_0⟩ ⟨_, hOgs16a0, hFgs16a0_1⟩ ⟨_, hOgs16a0, hFgs16a0_2⟩ ⟨_, hOgs16a0, hFgs16a0_10⟩ ⟨_, hOgs16a0, hFgs16a0_11⟩ ⟨_, hOgs16a0, hFgs16a0_12⟩ ⟨_, hOgs16a0, hFgs16a0_4⟩ ⟨_, hOgs16a0, hFgs16a0_5⟩ ⟨_, hOgs16a0, hFgs16a0_6⟩ ⟨_, hOgs16a0, hFgs16a0_7⟩ hAF8n16 hAF1n16 hAF37n16 hAF38n16 (by omega) (by omega) (by omega) (by omega) (by simp only [he38.eq, he51.eq, he63.eq]; omega) (by simp only [he38.eq, he51.eq, he63.eq]; omega) (by simp only [he38.eq, he51.eq, he63.eq]; omega) (by simp only [he38.eq, he51.eq, he63.eq]; omega) (by simp only [he38.eq, he51.eq, he63.eq]; omega) (by simp only [he38.eq, he51.eq, he63.eq]; omega) (by omega) (by omega) (by omega) (by omega) (by rw [he38.eq, he51.eq, he63.eq]; rfl) (by rw [hk108_0]; exact jtpc_bridge (m := x1.toInt.toNat) (by rw [List.length_cons, hp12]) (by omega) (by omega) hnr2 (show _ = (y38.toInt, y51.toInt, y63.toInt) by rw [he38.eq, he51.eq, he63.eq]; rfl))) (by omega) (Nat.zero_le _) (Nat.zero_le _) (Nat.le_of_ble_eq_true rfl) (fun r129 V129 h129 => ?_)
                obtain ⟨h129, hX129_0, hX129_1, ⟨fv129_0, hfv129_0, hfp129_0⟩, ⟨fv129_1, hfv129_1, hfp129_1⟩, ⟨fv129_2, hfv129_2, hfp129_2⟩, ⟨fv129_3, hfv129_3, hfp129_3⟩, ⟨fv129_4, hfv129_4, hfp129_4⟩, ⟨fv129_5, hfv129_5, hfp129_5⟩⟩ := h129
                obtain ⟨hW, hx129, hr129⟩ := h129
                have he := he.trans (hx129.sub (jsub_of rfl))
                have hfp := hfp.trans (hX129_1.sub (fun b hb => by simp only [List.mem_cons, List.not_mem_nil, or_false] at hb ⊢; omega))
                have ha0 := ha0.mono hx129.1
                have hb_tk := hb_tk.mono hx129.1
                have hb_wc := hb_wc.mono hx129.1
                have hb_sq := hb_sq.mono hx129.1
                have hb_rc := hb_rc.mono hx129.1
                have hb_bc := hb_bc.mono hx129.1
                obtain ⟨fs129a0, hOfs129a0, hRfs129a0⟩ := hx129.1.keep hOgs16a0
                have hKfs129a0 : jokO _ (jFs 2) fs129a0 := hW _ _ id hOfs129a0
                have hFfs129a0_3 := hRfs129a0 _ _ hFgs16a0_3
                have hFfs129a0_4 := hRfs129a0 _ _ hFgs16a0_4
                have hFfs129a0_5 := hRfs129a0 _ _ hFgs16a0_5
                have hFfs129a0_6 := hRfs129a0 _ _ hFgs16a0_6
                have hFfs129a0_7 := hRfs129a0 _ _ hFgs16a0_7
                have hAF2n16 := hx129.2 _ _ hAF2n16 (jnot_of rfl)
                cases hr129
                have hFv129_0 := hfv129_0.get hOfs129a0
                try simp only [he38.eq, he51.eq, he63.eq] at hfp129_0
                have hsb129_0 : g = fv129_0 := (jI_inj.mp hfp129_0).symm
                subst hsb129_0
                have hFv129_1 := hfv129_1.get hOfs129a0
                try simp only [he38.eq, he51.eq, he63.eq] at hfp129_1
                have hsb129_1 : R = fv129_1 := (jI_inj.mp hfp129_1).symm
                subst hsb129_1
                have hFv129_2 := hfv129_2.get hOfs129a0
                try simp only [he38.eq, he51.eq, he63.eq] at hfp129_2
                have hsb129_2 : sd = fv129_2 := (jI_inj.mp hfp129_2).symm
                subst hsb129_2
                have hFv129_3 := hfv129_3.get hOfs129a0
                try simp only [he38.eq, he51.eq, he63.eq] at hfp129_3
                have hsb129_3 : lv = fv129_3 := (jI_inj.mp hfp129_3).symm
                subst hsb129_3
                have hFv129_4 := hfv129_4.get hOfs129a0
                try simp only [he38.eq, he51.eq, he63.eq] at hfp129_4
                have hsb129_4 : cd = fv129_4 := (jI_inj.mp hfp129_4).symm
                subst hsb129_4
                have hFv129_5 := hfv129_5.get hOfs129a0
                try simp only [he38.eq, he51.eq, he63.eq] at hfp129_5
                have hsb129_5 : tg = fv129_5 := (jI_inj.mp hfp129_5).symm
                subst hsb129_5
                obtain ⟨WC129, SQ129, RC129, BC129, sp129, hWa129, hSa129, hRa129, hBa129, hspf129, hsc1, hsw1, hss1, hso1⟩ := hX129_0
                have e9 : jcw g.toInt (jfzs g.toInt tg.toInt) (lv.toInt - x1.toInt - 1).toNat ((jnx g.toInt i8n16.toInt (x2.toInt, x3.toInt, x4.toInt)) :: l) (jac F8n16 F1n16 F37n16 F38n16 lv.toInt.toNat) = jsc g.toInt ((jnx g.toInt i8n16.toInt (x2.toInt, x3.toInt, x4.toInt)) :: l) (jac F8n16 F1n16 F37n16 F38n16 lv.toInt.toNat) := by
                  rw [show (lv.toInt - x1.toInt - 1).toNat = 0 by omega]
                  exact if_neg (show ¬ (600000 - tg.toInt).toNat < (F8n16 lv.toInt.toNat).toInt.toNat by omega)
                have hFv12913 := hspf129.get hOfs129a0
                obtain ⟨hN_WC129, hv_WC129⟩ := WT_rngI (r := ((-2147483648), 2147483647)) hW id rfl hWa129
                clear hN_WC129
                obtain ⟨hN_RC129, hv_RC129⟩ := WT_rngI (r := ((-2147483648), 2147483647)) hW id rfl hRa129
                clear hN_RC129
                obtain ⟨hN_BC129, hv_BC129⟩ := WT_rngI (r := ((-2147483648), 2147483647)) hW id rfl hBa129
                clear hN_BC129
                refine J_goto (tgt := 164) dX4_extend_132 (by decide) ?_
                refine Jz_iinc 1 dX4_extend_164 rfl rfl (by decide) jEq.rf (by decide) (by omega) (by omega) (fun y164 he164 => ?_)
                refine J_goto (tgt := 16) dX4_extend_167 (by decide) ?_
                refine J.mask [true, true, true, true, true, true, true, true, true, false, false, false, false, false] ?_
                exact ih16 _ y164 fs129a0 sp129 F2n16 WC129 SQ129 RC129 BC129 hW he ha0 hb_tk hb_wc hb_sq hb_rc hb_bc hfp hOfs129a0 hFv129_0 hFv129_1 hFv129_2 hFv129_3 hFv129_4 hFv129_5 hFv12913 hFfs129a0_3 hFfs129a0_4 hFfs129a0_5 hFfs129a0_6 hFfs129a0_7 hAF2n16 hWa129 hSa129 hRa129 hBa129 (by (try simp only [he164.eq, true_and, and_true]) <;> omega) htk (by rw [he164.eq, hjs, jcs_no (by rw [hp13, show ((i8n16.toInt.toNat : Nat) : Int) = i8n16.toInt from Int.toNat_of_nonneg (by omega)]; exact hnin), hp13, show ((i8n16.toInt.toNat : Nat) : Int) = i8n16.toInt from Int.toNat_of_nonneg (by omega), e9, hsc1]) (by (try simp only [he164.eq, true_and, and_true]) <;> omega) (by (try simp only [he164.eq, true_and, and_true]) <;> omega) (hoth.trans hso1) (by (try simp only [he164.eq, true_and, and_true]) <;> omega)
            refine Jz_if_gt (tgt := 101) he38 dX4_extend_92 (by decide) (fun c92 => ?_) (fun c92 => ?_)
            · refine J_iload dX4_extend_101 rfl ?_
              refine J_iload dX4_extend_103 rfl ?_
              refine J_mmax jw_ml_X4_99 dX4_extend_105 (by omega) (Nat.le_of_ble_eq_true rfl) ?_
              have hz105 : jEq (if x5 < y38 then y38 else x5).toInt (if x5.toInt < (x2.toInt + jsx g.toInt i8n16.toInt) then (x2.toInt + jsx g.toInt i8n16.toInt) else x5.toInt) := by have q := jmaxi (x := x5) (y := y38) jEq.rf he38; exact (show (if x5 < y38 then y38 else x5).toInt = if x5.toInt < (x2.toInt + jsx g.toInt i8n16.toInt) then (x2.toInt + jsx g.toInt i8n16.toInt) else x5.toInt by omega)
              generalize (if x5 < y38 then y38 else x5) = y105 at hz105 ⊢
              exact K108  y105  (by rw [htc, if_neg (by omega), ← hp16]; exact hz105.eq)
            · refine Jz_sipush 1000 dX4_extend_95 (by decide) (fun y95 he95 => ?_)
              refine J_goto (tgt := 108) dX4_extend_98 (by decide) ?_
              exact K108  y95  (by rw [htc, if_pos (by omega)]; exact he95.eq)
          · have hin : (jnx g.toInt i8n16.toInt (x2.toInt, x3.toInt, x4.toInt)) ∈ l := Classical.byContradiction (fun z => hP81_0.elim (fun q => q.2 (htq.mpr z)) (fun q => c84 q.1))
            refine J_goto (tgt := 164) dX4_extend_87 (by decide) ?_
            refine Jz_iinc 1 dX4_extend_164 rfl rfl (by decide) jEq.rf (by decide) (by omega) (by omega) (fun y164 he164 => ?_)
            refine J_goto (tgt := 16) dX4_extend_167 (by decide) ?_
            refine J.mask [true, true, true, true, true, true, true, true, true, false, false, false, false, false] ?_
            exact ih16 _ y164 gs16a0 g13n16 F2n16 F8n16 F1n16 F37n16 F38n16 hW he ha0 hb_tk hb_wc hb_sq hb_rc hb_bc hfp hOgs16a0 hFgs16a0_0 hFgs16a0_1 hFgs16a0_2 hFgs16a0_10 hFgs16a0_11 hFgs16a0_12 hFgs16a0_13 hFgs16a0_3 hFgs16a0_4 hFgs16a0_5 hFgs16a0_6 hFgs16a0_7 hAF2n16 hAF8n16 hAF1n16 hAF37n16 hAF38n16 (by (try simp only [he164.eq, true_and, and_true]) <;> omega) htk (by rw [he164.eq, hjs, jcs_yes (by rw [hp13, show ((i8n16.toInt.toNat : Nat) : Int) = i8n16.toInt from Int.toNat_of_nonneg (by omega)]; exact hin)]) (by (try simp only [he164.eq, true_and, and_true]) <;> omega) (by (try simp only [he164.eq, true_and, and_true]) <;> omega) hoth (by (try simp only [he164.eq, true_and, and_true]) <;> omega)
  refine J.mask [true, true, true, true, true, true, true, true, true, false, false, false, false, false] ?_
  exact L16 _ _ y13 fs_a0 sp TK WC SQ RC BC hW he ha0 hb_tk hb_wc hb_sq hb_rc hb_bc hfp hO_a0 hF_g hF_R hF_sd hF_lv hF_cd hF_tg hF_sp hF_tk hF_wc hF_sq hF_rc hF_bc ha_TK ha_WC ha_SQ ha_RC ha_BC (by (try simp only [he13.eq, true_and, and_true]) <;> omega) hp15 (by rw [he13.eq, show (jdir g.toInt - 0).toNat = (jdir g.toInt).toNat by omega, show (lv.toInt - x1.toInt).toNat = (lv.toInt - x1.toInt - 1).toNat + 1 by omega]; rfl) (by (try simp only [he13.eq, true_and, and_true]) <;> omega) (by (try simp only [he13.eq, true_and, and_true]) <;> omega) jot.rf (Nat.lt_succ_self _)
