set_option maxRecDepth 100000 in
set_option maxHeartbeats 8000000 in
theorem w_X4_holds_z {tS : jTS} (d : Nat) (V0 : jH) (a0 : Nat) (x1 : Int32) (g : Int32) (R : Int32) (sd : Int32) (cd : Int32) (tg : Int32) (sp : Int32) (tk : Nat) (wc : Nat) (sq : Nat) (rc : Nat) (bc : Nat) (ln : Nat) (TK : Nat → Int32) (WC : Nat → Int32) (SQ : Nat → Int64) (RC : Nat → Int32) (BC : Nat → Int32) (hd : 27 ≤ d) (hW : WT V0) (ha0 : jis V0 (.inr 2) a0) (hf_g : jfI V0 a0 2 0 g) (hf_R : jfI V0 a0 2 1 R) (hf_sd : jfI V0 a0 2 2 sd) (hf_cd : jfI V0 a0 2 11 cd) (hf_tg : jfI V0 a0 2 12 tg) (hf_sp : jfI V0 a0 2 13 sp) (hr_tk : jfR V0 a0 2 3 tk) (hr_wc : jfR V0 a0 2 4 wc) (hr_sq : jfR V0 a0 2 5 sq) (hr_rc : jfR V0 a0 2 6 rc) (hr_bc : jfR V0 a0 2 7 bc) (ha_TK : V0 tk = some (.inl (2, ln, .inl TK))) (ha_WC : V0 wc = some (.inl (8, 21, .inl WC))) (ha_SQ : V0 sq = some (.inl (1, 21, .inr (.inl SQ)))) (ha_RC : V0 rc = some (.inl (37, 21, .inl RC))) (ha_BC : V0 bc = some (.inl (38, 21, .inl BC))) (hp0 : 0 ≤ g.toInt) (hp1 : g.toInt ≤ 3) (hp2 : R.toInt = jRg g.toInt) (hp3 : sd.toInt = 2 * jRg g.toInt + 1) (hp4 : (ln : Int) = jLg g.toInt) (hp5 : 0 ≤ x1.toInt) (hp6 : x1.toInt ≤ 20) (hp7 : jtk g.toInt TK []) (hp8 : jtal g.toInt WC SQ RC BC cd.toInt tg.toInt sp.toInt) : jTot tS mX4_holds d [.ref a0, .int x1] V0 0 0 (fun r V => (jPost [.inr 2, .inl 1, .inl 2, .inl 8, .inl 37, .inl 38] V0 (fun r _ => ∃ y : Int32, r = some (.int y) ∧ (0 ≤ y.toInt) ∧ (y.toInt ≤ 1) ∧ ((y.toInt = 1 ∧ jTT g.toInt x1.toInt.toNat jL0 ≤ 600000) ∨ (y.toInt = 0 ∧ 600000 < jTT g.toInt x1.toInt.toNat jL0)))) r V ∧ (∃ (TK2 WC2 : Nat → Int32) (SQ2 : Nat → Int64) (RC2 BC2 : Nat → Int32) (sp2 cd2 tg2 : Int32), V tk = some (.inl (2, ln, .inl TK2)) ∧ V wc = some (.inl (8, 21, .inl WC2)) ∧ V sq = some (.inl (1, 21, .inr (.inl SQ2))) ∧ V rc = some (.inl (37, 21, .inl RC2)) ∧ V bc = some (.inl (38, 21, .inl BC2)) ∧ jfI V a0 2 13 sp2 ∧ jfI V a0 2 11 cd2 ∧ jfI V a0 2 12 tg2 ∧ jtk g.toInt TK2 [] ∧ jtal g.toInt WC2 SQ2 RC2 BC2 cd2.toInt tg2.toInt sp2.toInt ∧ (jTT g.toInt x1.toInt.toNat jL0 ≤ 600000 → x1.toInt ≤ cd2.toInt)) ∧ jty V a0 (tk, wc, sq, rc, bc) g.toInt ∧ jtyr V (tk, wc, sq, rc, bc) g.toInt x1.toInt.toNat ∧ jfp [a0, tk, wc, sq, rc, bc] V0 V ∧ (∃ g2 : Int32, jfI V a0 2 0 g2 ∧ (g2.toInt = g.toInt)) ∧ (∃ R2 : Int32, jfI V a0 2 1 R2 ∧ (R2.toInt = R.toInt)) ∧ (∃ sd2 : Int32, jfI V a0 2 2 sd2 ∧ (sd2.toInt = sd.toInt))) := by
  refine jTot.of_J [some (.ref a0), some (.int x1), none] moX4_holds (Nat.le_of_ble_eq_true rfl) rfl ?_
  have hrx1 := j_rng x1
  have he : jeff [.inr 2, .inl 1, .inl 2, .inl 8, .inl 37, .inl 38] V0 V0 := jeff.refl _ _
  have hfp : jfp [a0, tk, wc, sq, rc, bc] V0 V0 := jfp.rf
  obtain ⟨fs_a0, hO_a0, hK_a0⟩ := WT_obj hW id ha0
  have hF_g := hf_g.get hO_a0
  have hrg : (-2147483648) ≤ g.toInt ∧ g.toInt ≤ 2147483647 := jok_rngI hK_a0 rfl hF_g
  have hF_R := hf_R.get hO_a0
  have hrR : 0 ≤ R.toInt ∧ R.toInt ≤ 20 := jok_rngI hK_a0 rfl hF_R
  have hF_sd := hf_sd.get hO_a0
  have hrsd : (-2147483648) ≤ sd.toInt ∧ sd.toInt ≤ 2147483647 := jok_rngI hK_a0 rfl hF_sd
  have hF_cd := hf_cd.get hO_a0
  have hrcd : 0 ≤ cd.toInt ∧ cd.toInt ≤ 20 := jok_rngI hK_a0 rfl hF_cd
  have hF_tg := hf_tg.get hO_a0
  have hrtg : (-2147483648) ≤ tg.toInt ∧ tg.toInt ≤ 2147483647 := jok_rngI hK_a0 rfl hF_tg
  have hF_sp := hf_sp.get hO_a0
  have hrsp : 0 ≤ sp.toInt ∧ sp.toInt ≤ 1 := jok_rngI hK_a0 rfl hF_sp
  have hF_tk := hr_tk.get hO_a0
  obtain ⟨w_tk, hFq_tk, b_tk, hbq_tk, hb_tk⟩ := hK_a0.2 3 (.inr (some (.inl 2))) rfl
  cases hF_tk.symm.trans (hFq_tk.trans (congrArg some hbq_tk))
  have hF_wc := hr_wc.get hO_a0
  obtain ⟨w_wc, hFq_wc, b_wc, hbq_wc, hb_wc⟩ := hK_a0.2 4 (.inr (some (.inl 8))) rfl
  cases hF_wc.symm.trans (hFq_wc.trans (congrArg some hbq_wc))
  have hF_sq := hr_sq.get hO_a0
  obtain ⟨w_sq, hFq_sq, b_sq, hbq_sq, hb_sq⟩ := hK_a0.2 5 (.inr (some (.inl 1))) rfl
  cases hF_sq.symm.trans (hFq_sq.trans (congrArg some hbq_sq))
  have hF_rc := hr_rc.get hO_a0
  obtain ⟨w_rc, hFq_rc, b_rc, hbq_rc, hb_rc⟩ := hK_a0.2 6 (.inr (some (.inl 37))) rfl
  cases hF_rc.symm.trans (hFq_rc.trans (congrArg some hbq_rc))
  have hF_bc := hr_bc.get hO_a0
  obtain ⟨w_bc, hFq_bc, b_bc, hbq_bc, hb_bc⟩ := hK_a0.2 7 (.inr (some (.inl 38))) rfl
  cases hF_bc.symm.trans (hFq_bc.trans (congrArg some hbq_bc))
  obtain ⟨hN_TK, hv_TK⟩ := WT_rngI (r := (0, 1)) hW id rfl ha_TK
  clear hN_TK
  obtain ⟨hN_WC, hv_WC⟩ := WT_rngI (r := ((-2147483648), 2147483647)) hW id rfl ha_WC
  clear hN_WC
  obtain ⟨hN_RC, hv_RC⟩ := WT_rngI (r := ((-2147483648), 2147483647)) hW id rfl ha_RC
  clear hN_RC
  obtain ⟨hN_BC, hv_BC⟩ := WT_rngI (r := ((-2147483648), 2147483647)) hW id rfl ha_BC
  clear hN_BC
  have hjR := jRg_cases g.toInt
  have hc0 : 0 ≤ cd.toInt ∧ cd.toInt ≤ jRg g.toInt := hp8.1
  refine J_aload_n dX4_holds_0 rfl ?_
  refine J_get jf_X4_35 dX4_holds_1 hO_a0 hF_cd ?_
  refine Jz_iconst 1 dX4_holds_4 (by decide) (fun y4 he4 => ?_)
  refine Jz_iadd jEq.rf he4 dX4_holds_5 (by omega) (by omega) (fun y5 he5 => ?_)
  refine J_istore_n dX4_holds_6 rfl (by decide) ?_
  have L7 : ∀ (N : Nat) (V : jH) (i2n7 : Int32) (gs7a0 : List Value) (g11n7 : Int32) (g12n7 : Int32) (g13n7 : Int32) (F2n7 : Nat → Int32) (F8n7 : Nat → Int32) (F1n7 : Nat → Int64) (F37n7 : Nat → Int32) (F38n7 : Nat → Int32), WT V → jeff [.inr 2, .inl 1, .inl 2, .inl 8, .inl 37, .inl 38] V0 V → (jis V (.inr 2) a0) → (jis V (.inl 2) tk) → (jis V (.inl 8) wc) → (jis V (.inl 1) sq) → (jis V (.inl 37) rc) → (jis V (.inl 38) bc) → (jfp [a0, tk, wc, sq, rc, bc] V0 V) → (V a0 = some (.inr (2, gs7a0))) → (gs7a0[0]? = some (.int g)) → (gs7a0[1]? = some (.int R)) → (gs7a0[2]? = some (.int sd)) → (gs7a0[11]? = some (.int g11n7)) → (gs7a0[12]? = some (.int g12n7)) → (gs7a0[13]? = some (.int g13n7)) → (gs7a0[3]? = some (.ref tk)) → (gs7a0[4]? = some (.ref wc)) → (gs7a0[5]? = some (.ref sq)) → (gs7a0[6]? = some (.ref rc)) → (gs7a0[7]? = some (.ref bc)) → (V tk = some (.inl (2, ln, .inl F2n7))) → (V wc = some (.inl (8, 21, .inl F8n7))) → (V sq = some (.inl (1, 21, .inr (.inl F1n7)))) → (V rc = some (.inl (37, 21, .inl F37n7))) → (V bc = some (.inl (38, 21, .inl F38n7))) → (1 ≤ i2n7.toInt ∧ i2n7.toInt ≤ 21) → (g13n7.toInt = 0 → i2n7.toInt = g11n7.toInt + 1) → (jtk g.toInt F2n7 []) → (jtal g.toInt F8n7 F1n7 F37n7 F38n7 g11n7.toInt g12n7.toInt g13n7.toInt) → (300 - i2n7.toInt).toNat < N → J tS mX4_holds d 7 [some (.ref a0), some (.int x1), some (.int i2n7)] [] V 0 0 (fun r V => (jPost [.inr 2, .inl 1, .inl 2, .inl 8, .inl 37, .inl 38] V0 (fun r _ => ∃ y : Int32, r = some (.int y) ∧ (0 ≤ y.toInt) ∧ (y.toInt ≤ 1) ∧ ((y.toInt = 1 ∧ jTT g.toInt x1.toInt.toNat jL0 ≤ 600000) ∨ (y.toInt = 0 ∧ 600000 < jTT g.toInt x1.toInt.toNat jL0)))) r V ∧ (∃ (TK2 WC2 : Nat → Int32) (SQ2 : Nat → Int64) (RC2 BC2 : Nat → Int32) (sp2 cd2 tg2 : Int32), V tk = some (.inl (2, ln, .inl TK2)) ∧ V wc = some (.inl (8, 21, .inl WC2)) ∧ V sq = some (.inl (1, 21, .inr (.inl SQ2))) ∧ V rc = some (.inl (37, 21, .inl RC2)) ∧ V bc = some (.inl (38, 21, .inl BC2)) ∧ jfI V a0 2 13 sp2 ∧ jfI V a0 2 11 cd2 ∧ jfI V a0 2 12 tg2 ∧ jtk g.toInt TK2 [] ∧ jtal g.toInt WC2 SQ2 RC2 BC2 cd2.toInt tg2.toInt sp2.toInt ∧ (jTT g.toInt x1.toInt.toNat jL0 ≤ 600000 → x1.toInt ≤ cd2.toInt)) ∧ jty V a0 (tk, wc, sq, rc, bc) g.toInt ∧ jtyr V (tk, wc, sq, rc, bc) g.toInt x1.toInt.toNat ∧ jfp [a0, tk, wc, sq, rc, bc] V0 V ∧ (∃ g2 : Int32, jfI V a0 2 0 g2 ∧ (g2.toInt = g.toInt)) ∧ (∃ R2 : Int32, jfI V a0 2 1 R2 ∧ (R2.toInt = R.toInt)) ∧ (∃ sd2 : Int32, jfI V a0 2 2 sd2 ∧ (sd2.toInt = sd.toInt))) := by
    intro N
    induction N with
    | zero => intro V i2n7 gs7a0 g11n7 g12n7 g13n7 F2n7 F8n7 F1n7 F37n7 F38n7 hW he ha0 hb_tk hb_wc hb_sq hb_rc hb_bc hfp hOgs7a0 hFgs7a0_0 hFgs7a0_1 hFgs7a0_2 hFgs7a0_11 hFgs7a0_12 hFgs7a0_13 hFgs7a0_3 hFgs7a0_4 hFgs7a0_5 hFgs7a0_6 hFgs7a0_7 hAF2n7 hAF8n7 hAF1n7 hAF37n7 hAF38n7 hi2 hnx htk htal hm; exact absurd hm (Nat.not_lt_zero _)
    | succ N ih =>
      intro V i2n7 gs7a0 g11n7 g12n7 g13n7 F2n7 F8n7 F1n7 F37n7 F38n7 hW he ha0 hb_tk hb_wc hb_sq hb_rc hb_bc hfp hOgs7a0 hFgs7a0_0 hFgs7a0_1 hFgs7a0_2 hFgs7a0_11 hFgs7a0_12 hFgs7a0_13 hFgs7a0_3 hFgs7a0_4 hFgs7a0_5 hFgs7a0_6 hFgs7a0_7 hAF2n7 hAF8n7 hAF1n7 hAF37n7 hAF38n7 hi2 hnx htk htal hm
      have ih7 := ih
      have hri2 := j_rng i2n7
      have hKgs7a0 : jokO V (jFs 2) gs7a0 := hW _ _ id hOgs7a0
      have hrgg11n7 : 0 ≤ g11n7.toInt ∧ g11n7.toInt ≤ 20 := jok_rngI hKgs7a0 rfl hFgs7a0_11
      have hrgg12n7 : (-2147483648) ≤ g12n7.toInt ∧ g12n7.toInt ≤ 2147483647 := jok_rngI hKgs7a0 rfl hFgs7a0_12
      have hrgg13n7 : 0 ≤ g13n7.toInt ∧ g13n7.toInt ≤ 1 := jok_rngI hKgs7a0 rfl hFgs7a0_13
      obtain ⟨hNF2n7, hvF2n7⟩ := WT_rngI (r := (0, 1)) hW id rfl hAF2n7
      clear hNF2n7
      obtain ⟨hNF8n7, hvF8n7⟩ := WT_rngI (r := ((-2147483648), 2147483647)) hW id rfl hAF8n7
      clear hNF8n7
      obtain ⟨hNF37n7, hvF37n7⟩ := WT_rngI (r := ((-2147483648), 2147483647)) hW id rfl hAF37n7
      clear hNF37n7
      obtain ⟨hNF38n7, hvF38n7⟩ := WT_rngI (r := ((-2147483648), 2147483647)) hW id rfl hAF38n7
      clear hNF38n7
      have hcb := htal.1
      refine J_iload_n dX4_holds_7 rfl ?_
      refine J_iload_n dX4_holds_8 rfl ?_
      refine Jz_icmp_gt (tgt := 38) jEq.rf jEq.rf dX4_holds_9 (by decide) (fun c9 => ?_) (fun c9 => ?_)
      · refine J_iload_n dX4_holds_38 rfl ?_
        refine J_aload_n dX4_holds_39 rfl ?_
        refine J_get jf_X4_35 dX4_holds_40 hOgs7a0 hFgs7a0_11 ?_
        refine Jz_icmp_gt (tgt := 50) jEq.rf jEq.rf dX4_holds_43 (by decide) (fun c43 => ?_) (fun c43 => ?_)
        · refine Jz_iconst 0 dX4_holds_50 (by decide) (fun y50 he50 => ?_)
          exact J_ret (r := some (.int _)) dX4_holds_51 ⟨rfl, _, rfl, (nar_b (by (try simp only [he50.eq, true_and, and_true]) <;> omega) (by (try simp only [he50.eq, true_and, and_true]) <;> omega))⟩ (⟨⟨hW, he, ⟨_, rfl, (by (try simp only [he50.eq, true_and, and_true]) <;> omega), (by (try simp only [he50.eq, true_and, and_true]) <;> omega), (by first | exact Or.inl ⟨he46.eq, htal.yes (by omega)⟩ | exact Or.inr ⟨he50.eq, htal.no (by omega) (by omega) (by omega)⟩)⟩⟩, ⟨F2n7, F8n7, F1n7, F37n7, F38n7, g13n7, g11n7, g12n7, hAF2n7, hAF8n7, hAF1n7, hAF37n7, hAF38n7, ⟨_, hOgs7a0, hFgs7a0_13⟩, ⟨_, hOgs7a0, hFgs7a0_11⟩, ⟨_, hOgs7a0, hFgs7a0_12⟩, htk, htal, (fun q => by first | omega | exact absurd (htal.no (n := x1.toInt.toNat) (by omega) (by omega) (by omega)) (by omega))⟩, ⟨g, R, sd, g11n7, g12n7, g13n7, ln, F2n7, F8n7, F1n7, F37n7, F38n7, ⟨rfl, hp2, hp3, hp4⟩, ⟨⟨_, hOgs7a0, hFgs7a0_0⟩, ⟨_, hOgs7a0, hFgs7a0_1⟩, ⟨_, hOgs7a0, hFgs7a0_2⟩, ⟨_, hOgs7a0, hFgs7a0_11⟩, ⟨_, hOgs7a0, hFgs7a0_12⟩, ⟨_, hOgs7a0, hFgs7a0_13⟩⟩, ⟨⟨_, hOgs7a0, hFgs7a0_3⟩, ⟨_, hOgs7a0, hFgs7a0_4⟩, ⟨_, hOgs7a0, hFgs7a0_5⟩, ⟨_, hOgs7a0, hFgs7a0_6⟩, ⟨_, hOgs7a0, hFgs7a0_7⟩⟩, ⟨hAF2n7, hAF8n7, hAF1n7, hAF37n7, hAF38n7⟩, htk, htal⟩, ⟨F8n7, F1n7, F37n7, F38n7, ⟨hAF8n7, hAF1n7, hAF37n7, hAF38n7⟩, fun q => htal.has (by first | omega | exact absurd (htal.no (n := x1.toInt.toNat) (by omega) (by omega) (by omega)) (by omega))⟩, hfp, ⟨_, ⟨_, hOgs7a0, hFgs7a0_0⟩, (by omega)⟩, ⟨_, ⟨_, hOgs7a0, hFgs7a0_1⟩, (by omega)⟩, ⟨_, ⟨_, hOgs7a0, hFgs7a0_2⟩, (by omega)⟩⟩)
        · refine Jz_iconst 1 dX4_holds_46 (by decide) (fun y46 he46 => ?_)
          refine J_goto (tgt := 51) dX4_holds_47 (by decide) ?_
          exact J_ret (r := some (.int _)) dX4_holds_51 ⟨rfl, _, rfl, (nar_b (by (try simp only [he46.eq, true_and, and_true]) <;> omega) (by (try simp only [he46.eq, true_and, and_true]) <;> omega))⟩ (⟨⟨hW, he, ⟨_, rfl, (by (try simp only [he46.eq, true_and, and_true]) <;> omega), (by (try simp only [he46.eq, true_and, and_true]) <;> omega), (by first | exact Or.inl ⟨he46.eq, htal.yes (by omega)⟩ | exact Or.inr ⟨he50.eq, htal.no (by omega) (by omega) (by omega)⟩)⟩⟩, ⟨F2n7, F8n7, F1n7, F37n7, F38n7, g13n7, g11n7, g12n7, hAF2n7, hAF8n7, hAF1n7, hAF37n7, hAF38n7, ⟨_, hOgs7a0, hFgs7a0_13⟩, ⟨_, hOgs7a0, hFgs7a0_11⟩, ⟨_, hOgs7a0, hFgs7a0_12⟩, htk, htal, (fun q => by first | omega | exact absurd (htal.no (n := x1.toInt.toNat) (by omega) (by omega) (by omega)) (by omega))⟩, ⟨g, R, sd, g11n7, g12n7, g13n7, ln, F2n7, F8n7, F1n7, F37n7, F38n7, ⟨rfl, hp2, hp3, hp4⟩, ⟨⟨_, hOgs7a0, hFgs7a0_0⟩, ⟨_, hOgs7a0, hFgs7a0_1⟩, ⟨_, hOgs7a0, hFgs7a0_2⟩, ⟨_, hOgs7a0, hFgs7a0_11⟩, ⟨_, hOgs7a0, hFgs7a0_12⟩, ⟨_, hOgs7a0, hFgs7a0_13⟩⟩, ⟨⟨_, hOgs7a0, hFgs7a0_3⟩, ⟨_, hOgs7a0, hFgs7a0_4⟩, ⟨_, hOgs7a0, hFgs7a0_5⟩, ⟨_, hOgs7a0, hFgs7a0_6⟩, ⟨_, hOgs7a0, hFgs7a0_7⟩⟩, ⟨hAF2n7, hAF8n7, hAF1n7, hAF37n7, hAF38n7⟩, htk, htal⟩, ⟨F8n7, F1n7, F37n7, F38n7, ⟨hAF8n7, hAF1n7, hAF37n7, hAF38n7⟩, fun q => htal.has (by first | omega | exact absurd (htal.no (n := x1.toInt.toNat) (by omega) (by omega) (by omega)) (by omega))⟩, hfp, ⟨_, ⟨_, hOgs7a0, hFgs7a0_0⟩, (by omega)⟩, ⟨_, ⟨_, hOgs7a0, hFgs7a0_1⟩, (by omega)⟩, ⟨_, ⟨_, hOgs7a0, hFgs7a0_2⟩, (by omega)⟩⟩)
      · refine J_iload_n dX4_holds_12 rfl ?_
        refine J_aload_n dX4_holds_13 rfl ?_
        refine J_get jf_X4_48 dX4_holds_14 hOgs7a0 hFgs7a0_1 ?_
        refine Jz_icmp_gt (tgt := 38) jEq.rf jEq.rf dX4_holds_17 (by decide) (fun c17 => ?_) (fun c17 => ?_)
        · refine J_iload_n dX4_holds_38 rfl ?_
          refine J_aload_n dX4_holds_39 rfl ?_
          refine J_get jf_X4_35 dX4_holds_40 hOgs7a0 hFgs7a0_11 ?_
          refine Jz_icmp_gt (tgt := 50) jEq.rf jEq.rf dX4_holds_43 (by decide) (fun c43 => ?_) (fun c43 => ?_)
          · refine Jz_iconst 0 dX4_holds_50 (by decide) (fun y50 he50 => ?_)
            exact J_ret (r := some (.int _)) dX4_holds_51 ⟨rfl, _, rfl, (nar_b (by (try simp only [he50.eq, true_and, and_true]) <;> omega) (by (try simp only [he50.eq, true_and, and_true]) <;> omega))⟩ (⟨⟨hW, he, ⟨_, rfl, (by (try simp only [he50.eq, true_and, and_true]) <;> omega), (by (try simp only [he50.eq, true_and, and_true]) <;> omega), (by first | exact Or.inl ⟨he46.eq, htal.yes (by omega)⟩ | exact Or.inr ⟨he50.eq, htal.no (by omega) (by omega) (by omega)⟩)⟩⟩, ⟨F2n7, F8n7, F1n7, F37n7, F38n7, g13n7, g11n7, g12n7, hAF2n7, hAF8n7, hAF1n7, hAF37n7, hAF38n7, ⟨_, hOgs7a0, hFgs7a0_13⟩, ⟨_, hOgs7a0, hFgs7a0_11⟩, ⟨_, hOgs7a0, hFgs7a0_12⟩, htk, htal, (fun q => by first | omega | exact absurd (htal.no (n := x1.toInt.toNat) (by omega) (by omega) (by omega)) (by omega))⟩, ⟨g, R, sd, g11n7, g12n7, g13n7, ln, F2n7, F8n7, F1n7, F37n7, F38n7, ⟨rfl, hp2, hp3, hp4⟩, ⟨⟨_, hOgs7a0, hFgs7a0_0⟩, ⟨_, hOgs7a0, hFgs7a0_1⟩, ⟨_, hOgs7a0, hFgs7a0_2⟩, ⟨_, hOgs7a0, hFgs7a0_11⟩, ⟨_, hOgs7a0, hFgs7a0_12⟩, ⟨_, hOgs7a0, hFgs7a0_13⟩⟩, ⟨⟨_, hOgs7a0, hFgs7a0_3⟩, ⟨_, hOgs7a0, hFgs7a0_4⟩, ⟨_, hOgs7a0, hFgs7a0_5⟩, ⟨_, hOgs7a0, hFgs7a0_6⟩, ⟨_, hOgs7a0, hFgs7a0_7⟩⟩, ⟨hAF2n7, hAF8n7, hAF1n7, hAF37n7, hAF38n7⟩, htk, htal⟩, ⟨F8n7, F1n7, F37n7, F38n7, ⟨hAF8n7, hAF1n7, hAF37n7, hAF38n7⟩, fun q => htal.has (by first | omega | exact absurd (htal.no (n := x1.toInt.toNat) (by omega) (by omega) (by omega)) (by omega))⟩, hfp, ⟨_, ⟨_, hOgs7a0, hFgs7a0_0⟩, (by omega)⟩, ⟨_, ⟨_, hOgs7a0, hFgs7a0_1⟩, (by omega)⟩, ⟨_, ⟨_, hOgs7a0, hFgs7a0_2⟩, (by omega)⟩⟩)
          · refine Jz_iconst 1 dX4_holds_46 (by decide) (fun y46 he46 => ?_)
            refine J_goto (tgt := 51) dX4_holds_47 (by decide) ?_
            exact J_ret (r := some (.int _)) dX4_holds_51 ⟨rfl, _, rfl, (nar_b (by (try simp only [he46.eq, true_and, and_true]) <;> omega) (by (try simp only [he46.eq, true_and, and_true]) <;> omega))⟩ (⟨⟨hW, he, ⟨_, rfl, (by (try simp only [he46.eq, true_and, and_true]) <;> omega), (by (try simp only [he46.eq, true_and, and_true]) <;> omega), (by first | exact Or.inl ⟨he46.eq, htal.yes (by omega)⟩ | exact Or.inr ⟨he50.eq, htal.no (by omega) (by omega) (by omega)⟩)⟩⟩, ⟨F2n7, F8n7, F1n7, F37n7, F38n7, g13n7, g11n7, g12n7, hAF2n7, hAF8n7, hAF1n7, hAF37n7, hAF38n7, ⟨_, hOgs7a0, hFgs7a0_13⟩, ⟨_, hOgs7a0, hFgs7a0_11⟩, ⟨_, hOgs7a0, hFgs7a0_12⟩, htk, htal, (fun q => by first | omega | exact absurd (htal.no (n := x1.toInt.toNat) (by omega) (by omega) (by omega)) (by omega))⟩, ⟨g, R, sd, g11n7, g12n7, g13n7, ln, F2n7, F8n7, F1n7, F37n7, F38n7, ⟨rfl, hp2, hp3, hp4⟩, ⟨⟨_, hOgs7a0, hFgs7a0_0⟩, ⟨_, hOgs7a0, hFgs7a0_1⟩, ⟨_, hOgs7a0, hFgs7a0_2⟩, ⟨_, hOgs7a0, hFgs7a0_11⟩, ⟨_, hOgs7a0, hFgs7a0_12⟩, ⟨_, hOgs7a0, hFgs7a0_13⟩⟩, ⟨⟨_, hOgs7a0, hFgs7a0_3⟩, ⟨_, hOgs7a0, hFgs7a0_4⟩, ⟨_, hOgs7a0, hFgs7a0_5⟩, ⟨_, hOgs7a0, hFgs7a0_6⟩, ⟨_, hOgs7a0, hFgs7a0_7⟩⟩, ⟨hAF2n7, hAF8n7, hAF1n7, hAF37n7, hAF38n7⟩, htk, htal⟩, ⟨F8n7, F1n7, F37n7, F38n7, ⟨hAF8n7, hAF1n7, hAF37n7, hAF38n7⟩, fun q => htal.has (by first | omega | exact absurd (htal.no (n := x1.toInt.toNat) (by omega) (by omega) (by omega)) (by omega))⟩, hfp, ⟨_, ⟨_, hOgs7a0, hFgs7a0_0⟩, (by omega)⟩, ⟨_, ⟨_, hOgs7a0, hFgs7a0_1⟩, (by omega)⟩, ⟨_, ⟨_, hOgs7a0, hFgs7a0_2⟩, (by omega)⟩⟩)
        · refine J_aload_n dX4_holds_20 rfl ?_
          refine J_get jf_X4_41 dX4_holds_21 hOgs7a0 hFgs7a0_13 ?_
          refine Jz_if_ne (tgt := 38) jEq.rf dX4_holds_24 (by decide) (fun c24 => ?_) (fun c24 => ?_)
          · refine J_iload_n dX4_holds_38 rfl ?_
            refine J_aload_n dX4_holds_39 rfl ?_
            refine J_get jf_X4_35 dX4_holds_40 hOgs7a0 hFgs7a0_11 ?_
            refine Jz_icmp_gt (tgt := 50) jEq.rf jEq.rf dX4_holds_43 (by decide) (fun c43 => ?_) (fun c43 => ?_)
            · refine Jz_iconst 0 dX4_holds_50 (by decide) (fun y50 he50 => ?_)
              exact J_ret (r := some (.int _)) dX4_holds_51 ⟨rfl, _, rfl, (nar_b (by (try simp only [he50.eq, true_and, and_true]) <;> omega) (by (try simp only [he50.eq, true_and, and_true]) <;> omega))⟩ (⟨⟨hW, he, ⟨_, rfl, (by (try simp only [he50.eq, true_and, and_true]) <;> omega), (by (try simp only [he50.eq, true_and, and_true]) <;> omega), (by first | exact Or.inl ⟨he46.eq, htal.yes (by omega)⟩ | exact Or.inr ⟨he50.eq, htal.no (by omega) (by omega) (by omega)⟩)⟩⟩, ⟨F2n7, F8n7, F1n7, F37n7, F38n7, g13n7, g11n7, g12n7, hAF2n7, hAF8n7, hAF1n7, hAF37n7, hAF38n7, ⟨_, hOgs7a0, hFgs7a0_13⟩, ⟨_, hOgs7a0, hFgs7a0_11⟩, ⟨_, hOgs7a0, hFgs7a0_12⟩, htk, htal, (fun q => by first | omega | exact absurd (htal.no (n := x1.toInt.toNat) (by omega) (by omega) (by omega)) (by omega))⟩, ⟨g, R, sd, g11n7, g12n7, g13n7, ln, F2n7, F8n7, F1n7, F37n7, F38n7, ⟨rfl, hp2, hp3, hp4⟩, ⟨⟨_, hOgs7a0, hFgs7a0_0⟩, ⟨_, hOgs7a0, hFgs7a0_1⟩, ⟨_, hOgs7a0, hFgs7a0_2⟩, ⟨_, hOgs7a0, hFgs7a0_11⟩, ⟨_, hOgs7a0, hFgs7a0_12⟩, ⟨_, hOgs7a0, hFgs7a0_13⟩⟩, ⟨⟨_, hOgs7a0, hFgs7a0_3⟩, ⟨_, hOgs7a0, hFgs7a0_4⟩, ⟨_, hOgs7a0, hFgs7a0_5⟩, ⟨_, hOgs7a0, hFgs7a0_6⟩, ⟨_, hOgs7a0, hFgs7a0_7⟩⟩, ⟨hAF2n7, hAF8n7, hAF1n7, hAF37n7, hAF38n7⟩, htk, htal⟩, ⟨F8n7, F1n7, F37n7, F38n7, ⟨hAF8n7, hAF1n7, hAF37n7, hAF38n7⟩, fun q => htal.has (by first | omega | exact absurd (htal.no (n := x1.toInt.toNat) (by omega) (by omega) (by omega)) (by omega))⟩, hfp, ⟨_, ⟨_, hOgs7a0, hFgs7a0_0⟩, (by omega)⟩, ⟨_, ⟨_, hOgs7a0, hFgs7a0_1⟩, (by omega)⟩, ⟨_, ⟨_, hOgs7a0, hFgs7a0_2⟩, (by omega)⟩⟩)
            · refine Jz_iconst 1 dX4_holds_46 (by decide) (fun y46 he46 => ?_)
              refine J_goto (tgt := 51) dX4_holds_47 (by decide) ?_
              exact J_ret (r := some (.int _)) dX4_holds_51 ⟨rfl, _, rfl, (nar_b (by (try simp only [he46.eq, true_and, and_true]) <;> omega) (by (try simp only [he46.eq, true_and, and_true]) <;> omega))⟩ (⟨⟨hW, he, ⟨_, rfl, (by (try simp only [he46.eq, true_and, and_true]) <;> omega), (by (try simp only [he46.eq, true_and, and_true]) <;> omega), (by first | exact Or.inl ⟨he46.eq, htal.yes (by omega)⟩ | exact Or.inr ⟨he50.eq, htal.no (by omega) (by omega) (by omega)⟩)⟩⟩, ⟨F2n7, F8n7, F1n7, F37n7, F38n7, g13n7, g11n7, g12n7, hAF2n7, hAF8n7, hAF1n7, hAF37n7, hAF38n7, ⟨_, hOgs7a0, hFgs7a0_13⟩, ⟨_, hOgs7a0, hFgs7a0_11⟩, ⟨_, hOgs7a0, hFgs7a0_12⟩, htk, htal, (fun q => by first | omega | exact absurd (htal.no (n := x1.toInt.toNat) (by omega) (by omega) (by omega)) (by omega))⟩, ⟨g, R, sd, g11n7, g12n7, g13n7, ln, F2n7, F8n7, F1n7, F37n7, F38n7, ⟨rfl, hp2, hp3, hp4⟩, ⟨⟨_, hOgs7a0, hFgs7a0_0⟩, ⟨_, hOgs7a0, hFgs7a0_1⟩, ⟨_, hOgs7a0, hFgs7a0_2⟩, ⟨_, hOgs7a0, hFgs7a0_11⟩, ⟨_, hOgs7a0, hFgs7a0_12⟩, ⟨_, hOgs7a0, hFgs7a0_13⟩⟩, ⟨⟨_, hOgs7a0, hFgs7a0_3⟩, ⟨_, hOgs7a0, hFgs7a0_4⟩, ⟨_, hOgs7a0, hFgs7a0_5⟩, ⟨_, hOgs7a0, hFgs7a0_6⟩, ⟨_, hOgs7a0, hFgs7a0_7⟩⟩, ⟨hAF2n7, hAF8n7, hAF1n7, hAF37n7, hAF38n7⟩, htk, htal⟩, ⟨F8n7, F1n7, F37n7, F38n7, ⟨hAF8n7, hAF1n7, hAF37n7, hAF38n7⟩, fun q => htal.has (by first | omega | exact absurd (htal.no (n := x1.toInt.toNat) (by omega) (by omega) (by omega)) (by omega))⟩, hfp, ⟨_, ⟨_, hOgs7a0, hFgs7a0_0⟩, (by omega)⟩, ⟨_, ⟨_, hOgs7a0, hFgs7a0_1⟩, (by omega)⟩, ⟨_, ⟨_, hOgs7a0, hFgs7a0_2⟩, (by omega)⟩⟩)
          · refine J_aload_n dX4_holds_27 rfl ?_
            refine J_iload_n dX4_holds_28 rfl ?_
            have hs0 : g13n7.toInt = 0 := by omega
            have hn2 := hnx hs0
            have hcz := (htal.2.2.2.2.2).elim (fun q => q.2 i2n7.toInt.toNat (by omega) (by omega)) (fun q => absurd q.1 (by omega))
            have htg := htal.2.1
            have htg6 := htal.2.2.1
            refine Jw_callV1 (q9 := (RX4, TX4, 14)) moX4_countLevel jw_ml_X4_58 jw_im_X4_countLevel jw_se_X4_countLevel ha0 rfl rfl dX4_holds_29 (w_X4_countLevel_z (d - 1) _ a0 i2n7 g R sd g11n7 g12n7 g13n7 tk wc sq rc bc ln F2n7 F8n7 F1n7 F37n7 F38n7 (by omega) hW  ha0 (by omega) (by omega) ⟨_, hOgs7a0, hFgs7a0_0⟩ ⟨_, hOgs7a0, hFgs7a0_1⟩ ⟨_, hOgs7a0, hFgs7a0_2⟩ ⟨_, hOgs7a0, hFgs7a0_11⟩ ⟨_, hOgs7a0, hFgs7a0_12⟩ ⟨_, hOgs7a0, hFgs7a0_13⟩ ⟨_, hOgs7a0, hFgs7a0_3⟩ ⟨_, hOgs7a0, hFgs7a0_4⟩ ⟨_, hOgs7a0, hFgs7a0_5⟩ ⟨_, hOgs7a0, hFgs7a0_6⟩ ⟨_, hOgs7a0, hFgs7a0_7⟩ hAF2n7 hAF8n7 hAF1n7 hAF37n7 hAF38n7 (by omega) (by omega) (by omega) (by omega) (by omega) (by omega) (by omega) (by rw [htg, show i2n7.toInt.toNat - 1 = g11n7.toInt.toNat by omega]) (by omega) (by omega) htk hcz.1 hcz.2.1 hcz.2.2.1 hcz.2.2.2) (by omega) (Nat.zero_le _) (Nat.zero_le _) (Nat.le_of_ble_eq_true rfl) (fun r29 V29 h29 => ?_)
            obtain ⟨h29, hX29_0, hX29_1, ⟨fv29_0, hfv29_0, hfp29_0⟩, ⟨fv29_1, hfv29_1, hfp29_1⟩, ⟨fv29_2, hfv29_2, hfp29_2⟩⟩ := h29
            obtain ⟨hW, hx29, hr29⟩ := h29
            have he := he.trans (hx29.sub (jsub_of rfl))
            have hfp := hfp.trans (hX29_1.sub (fun b hb => by simp only [List.mem_cons, List.not_mem_nil, or_false] at hb ⊢; first | (rcases hb with h9 | h9 | h9 | h9 | h9 | h9 <;> simp only [h9, true_or, or_true]) | omega))
            have ha0 := ha0.mono hx29.1
            have hb_tk := hb_tk.mono hx29.1
            have hb_wc := hb_wc.mono hx29.1
            have hb_sq := hb_sq.mono hx29.1
            have hb_rc := hb_rc.mono hx29.1
            have hb_bc := hb_bc.mono hx29.1
            obtain ⟨fs29a0, hOfs29a0, hRfs29a0⟩ := hx29.1.keep hOgs7a0
            have hKfs29a0 : jokO _ (jFs 2) fs29a0 := hW _ _ id hOfs29a0
            have hFfs29a0_3 := hRfs29a0 _ _ hFgs7a0_3
            have hFfs29a0_4 := hRfs29a0 _ _ hFgs7a0_4
            have hFfs29a0_5 := hRfs29a0 _ _ hFgs7a0_5
            have hFfs29a0_6 := hRfs29a0 _ _ hFgs7a0_6
            have hFfs29a0_7 := hRfs29a0 _ _ hFgs7a0_7
            cases hr29
            have hFv29_0 := hfv29_0.get hOfs29a0
            have hsb29_0 : g = fv29_0 := (jI_inj.mp hfp29_0).symm
            subst hsb29_0
            have hFv29_1 := hfv29_1.get hOfs29a0
            have hsb29_1 : R = fv29_1 := (jI_inj.mp hfp29_1).symm
            subst hsb29_1
            have hFv29_2 := hfv29_2.get hOfs29a0
            have hsb29_2 : sd = fv29_2 := (jI_inj.mp hfp29_2).symm
            subst hsb29_2
            obtain ⟨TK29, WC29, SQ29, RC29, BC29, sp29, cd29, tg29, hTa29, hWa29, hSa29, hRa29, hBa29, hspf29, hcdf29, htgf29, htkn, hcot, hcw, hcl29⟩ := hX29_0
            have htaln : jtal g.toInt WC29 SQ29 RC29 BC29 cd29.toInt tg29.toInt sp29.toInt := jtal.next (n := i2n7.toInt.toNat) (by rw [← hs0]; exact htal) (by omega) (by omega) hcot hcw (hcl29.imp (fun q => ⟨q.1, q.2.1, q.2.2.1, q.2.2.2.1, q.2.2.2.2⟩) id)
            have hFv2913 := hspf29.get hOfs29a0
            have hFv2911 := hcdf29.get hOfs29a0
            have hFv2912 := htgf29.get hOfs29a0
            obtain ⟨hN_TK29, hv_TK29⟩ := WT_rngI (r := (0, 1)) hW id rfl hTa29
            clear hN_TK29
            obtain ⟨hN_WC29, hv_WC29⟩ := WT_rngI (r := ((-2147483648), 2147483647)) hW id rfl hWa29
            clear hN_WC29
            obtain ⟨hN_RC29, hv_RC29⟩ := WT_rngI (r := ((-2147483648), 2147483647)) hW id rfl hRa29
            clear hN_RC29
            obtain ⟨hN_BC29, hv_BC29⟩ := WT_rngI (r := ((-2147483648), 2147483647)) hW id rfl hBa29
            clear hN_BC29
            refine Jz_iinc 1 dX4_holds_32 rfl rfl (by decide) jEq.rf (by decide) (by omega) (by omega) (fun y32 he32 => ?_)
            refine J_goto (tgt := 7) dX4_holds_35 (by decide) ?_
            refine J.mask [true, true, true] ?_
            exact ih7 _ y32 fs29a0 cd29 tg29 sp29 TK29 WC29 SQ29 RC29 BC29 hW he ha0 hb_tk hb_wc hb_sq hb_rc hb_bc hfp hOfs29a0 hFv29_0 hFv29_1 hFv29_2 hFv2911 hFv2912 hFv2913 hFfs29a0_3 hFfs29a0_4 hFfs29a0_5 hFfs29a0_6 hFfs29a0_7 hTa29 hWa29 hSa29 hRa29 hBa29 (by (try simp only [he32.eq, true_and, and_true]) <;> omega) (fun q => by rw [he32.eq]; rcases hcl29 with ⟨-, -, q3, -⟩ | ⟨q1, -⟩; omega; omega) htkn htaln (by (try simp only [he32.eq, true_and, and_true]) <;> omega)
  refine J.mask [true, true, true] ?_
  exact L7 _ _ y5 fs_a0 cd tg sp TK WC SQ RC BC hW he ha0 hb_tk hb_wc hb_sq hb_rc hb_bc hfp hO_a0 hF_g hF_R hF_sd hF_cd hF_tg hF_sp hF_tk hF_wc hF_sq hF_rc hF_bc ha_TK ha_WC ha_SQ ha_RC ha_BC (by (try simp only [he5.eq, true_and, and_true]) <;> omega) (fun _ => by rw [he5.eq]) hp7 hp8 (Nat.lt_succ_self _)
