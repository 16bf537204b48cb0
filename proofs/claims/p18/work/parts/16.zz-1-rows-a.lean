set_option maxRecDepth 100000 in
set_option maxHeartbeats 8000000 in
theorem w_X4_holds_z {tS : jTS} (d : Nat) (V0 : jH) (a0 : Nat) (x1 : Int32) (g : Int32) (R : Int32) (sd : Int32) (cd : Int32) (tg : Int32) (sp : Int32) (tk : Nat) (wc : Nat) (sq : Nat) (rc : Nat) (bc : Nat) (ln : Nat) (TK : Nat → Int32) (WC : Nat → Int32) (SQ : Nat → Int64) (RC : Nat → Int32) (BC : Nat → Int32) (hd : 27 ≤ d) (hW : WT V0) (ha0 : jis V0 (.inr 2) a0) (hf_g : jfI V0 a0 2 0 g) (hf_R : jfI V0 a0 2 1 R) (hf_sd : jfI V0 a0 2 2 sd) (hf_cd : jfI V0 a0 2 11 cd) (hf_tg : jfI V0 a0 2 12 tg) (hf_sp : jfI V0 a0 2 13 sp) (hr_tk : jfR V0 a0 2 3 tk) (hr_wc : jfR V0 a0 2 4 wc) (hr_sq : jfR V0 a0 2 5 sq) (hr_rc : jfR V0 a0 2 6 rc) (hr_bc : jfR V0 a0 2 7 bc) (ha_TK : V0 tk = some (.inl (2, ln, .inl TK))) (ha_WC : V0 wc = some (.inl (8, 21, .inl WC))) (ha_SQ : V0 sq = some (.inl (1, 21, .inr (.inl SQ)))) (ha_RC : V0 rc = some (.inl (37, 21, .inl RC))) (ha_BC : V0 bc = some (.inl (38, 21, .inl BC))) (hp0 : 0 ≤ g.toInt) (hp1 : g.toInt ≤ 3) (hp2 : R.toInt = jRg g.toInt) (hp3 : sd.toInt = 2 * jRg g.toInt + 1) (hp4 : (ln : Int) = jLg g.toInt) (hp5 : 0 ≤ x1.toInt) (hp6 : x1.toInt ≤ 20) (hp7 : jtk g.toInt TK []) (hp8 : jtal g.toInt WC SQ RC BC cd.toInt tg.toInt sp.toInt) : jTot tS mX4_holds d [.ref a0, .int x1] V0 0 0 (fun r V => (jPost [.inr 2, .inl 1, .inl 2, .inl 8, .inl 37, .inl 38] V0 (fun r _ => ∃ y : Int32, r = some (.int y) ∧ (0 ≤ y.toInt) ∧ (y.toInt ≤ 1) ∧ ((y.toInt = 1 ∧ jTT g.toInt x1.toInt.toNat jL0 ≤ 600000) ∨ (y.toInt = 0 ∧ 600000 < jTT g.toInt x1.toInt.toNat jL0)))) r V ∧ (∃ (TK2 WC2 : Nat → Int32) (SQ2 : Nat → Int64) (RC2 BC2 : Nat → Int32) (sp2 cd2 tg2 : Int32), V tk = some (.inl (2, ln, .inl TK2)) ∧ V wc = some (.inl (8, 21, .inl WC2)) ∧ V sq = some (.inl (1, 21, .inr (.inl SQ2))) ∧ V rc = some (.inl (37, 21, .inl RC2)) ∧ V bc = some (.inl (38, 21, .inl BC2)) ∧ jfI V a0 2 13 sp2 ∧ jfI V a0 2 11 cd2 ∧ jfI V a0 2 12 tg2 ∧ jtk g.toInt TK2 [] ∧ jtal g.toInt WC2 SQ2 RC2 BC2 cd2.toInt tg2.toInt sp2.toInt ∧ (jTT g.toInt x1.toInt.toNat jL0 ≤ 600000 → x1.toInt ≤ cd2.toInt)) ∧ jty V a0 (tk, wc, sq, rc, bc) g.toInt ∧ jtyr V (tk, wc, sq, rc, bc) g.toInt x1.toInt.toNat ∧ jfp [a0, tk, wc, sq, rc, bc] V0 V ∧ (∃ g2 : Int32, jfI V a0 2 0 g2 ∧ (g2.toInt = g.toInt)) ∧ (∃ R2 : Int32, jfI V a0 2 1 R2 ∧ (R2.toInt = R.toInt)) ∧ (∃ sd2 : Int32, jfI V a0 2 2 sd2 ∧ (sd2.toInt = sd.toInt))) := by
  refine jTot.of_J [some (.ref a0), some (.int x1), none] moX4_holds (Nat.le_of_ble_eq_true rfl) rfl ?_
  have hrx1 := j_rng x1
  have he : jeff [.inr 2, .inl 1, .inl 2, .inl 8, .inl 37, .inl 38] V0 V0 := jeff.refl _ _
  have hfp : jfp [a0, tk, wc, sq, rc, bc] V0 V0 := jfp.rf
  obtain ⟨fs_a0, hO_a0, hK_a0⟩ := WT_obj hW id ha0
  have hF_g := hf_g.get hO_a0
  have hrg : (-2147483648) ≤ g.toInt ∧ g.toInt ≤ 2147483647 := jok_rngI hK_a0 rfl hF_g
  have hF_R := hf_R.get hO_a0
  have hrR : 0 ≤ R.toInt ∧ R.toInt ≤ 20 := jok_rngI hK_a0 rfl hF_R
  have hF_sd := hf_sd.get hO_a0
  have hrsd : (-2147483648) ≤ sd.toInt ∧ sd.toInt ≤ 2147483647 := jok_rngI hK_a0 rfl hF_sd
  have hF_cd := hf_cd.get hO_a0
  have hrcd : 0 ≤ cd.toInt ∧ cd.toInt ≤ 20 := jok_rngI hK_a0 rfl hF_cd
  have hF_tg := hf_tg.get hO_a0
  have hrtg : (-2147483648) ≤ tg.toInt ∧ tg.toInt ≤ 2147483647 := jok_rngI hK_a0 rfl hF_tg
  have hF_sp := hf_sp.get hO_a0
  have hrsp : 0 ≤ sp.toInt ∧ sp.toInt ≤ 1 := jok_rngI hK_a0 rfl hF_sp
  have hF_tk := hr_tk.get hO_a0
  obtain ⟨w_tk, hFq_tk, b_tk, hbq_tk, hb_tk⟩ := hK_a0.2 3 (.inr (some (.inl 2))) rfl
  cases hF_tk.symm.trans (hFq_tk.trans (congrArg some hbq_tk))
  have hF_wc := hr_wc.get hO_a0
  obtain ⟨w_wc, hFq_wc, b_wc, hbq_wc, hb_wc⟩ := hK_a0.2 4 (.inr (some (.inl 8))) rfl
  cases hF_wc.symm.trans (hFq_wc.trans (congrArg some hbq_wc))
  have hF_sq := hr_sq.get hO_a0
  obtain ⟨w_sq, hFq_sq, b_sq, hbq_sq, hb_sq⟩ := hK_a0.2 5 (.inr (some (.inl 1))) rfl
  cases hF_sq.symm.trans (hFq_sq.trans (congrArg some hbq_sq))
  have hF_rc := hr_rc.get hO_a0
  obtain ⟨w_rc, hFq_rc, b_rc, hbq_rc, hb_rc⟩ := hK_a0.2 6 (.inr (some (.inl 37))) rfl
  cases hF_rc.symm.trans (hFq_rc.trans (congrArg some hbq_rc))
  have hF_bc := hr_bc.get hO_a0
  obtain ⟨w_bc, hFq_bc, b_bc, hbq_bc, hb_bc⟩ := hK_a0.2 7 (.inr (some (.inl 38))) rfl
  cases hF_bc.symm.trans (hFq_bc.trans (congrArg some hbq_bc))
  obtain ⟨hN_TK, hv_TK⟩ := WT_rngI (r := (0, 1)) hW id rfl ha_TK
  clear hN_TK
  obtain ⟨hN_WC, hv_WC⟩ := WT_rngI (r := ((-2147483648), 2147483647)) hW id rfl ha_WC
  clear hN_WC
  obtain ⟨hN_RC, hv_RC⟩ := WT_rngI (r := ((-2147483648), 2147483647)) hW id rfl ha_RC
  clear hN_RC
  obtain ⟨hN_BC, hv_BC⟩ := WT_rngI (r := ((-2147483648), 2147483647)) hW id rfl ha_BC
  clear hN_BC
  have hjR := jRg_cases g.toInt
  have hc0 : 0 ≤ cd.toInt ∧ cd.toInt ≤ jRg g.toInt := hp8.1
  refine J_aload_n dX4_holds_0 rfl ?_
  refine J_get jf_X4_35 dX4_holds_1 hO_a0 hF_cd ?_
  refine Jz_iconst 1 dX4_holds_4 (by decide) (fun y4 he4 => ?_)
  refine Jz_iadd jEq.rf he4 dX4_holds_5 (by omega) (by omega) (fun y5 he5 => ?_)
  refine J_istore_n dX4_holds_6 rfl (by decide) ?_
  have L7 : ∀ (N : Nat) (V : jH) (i2n7 : Int32) (gs7a0 : List Value) (g11n7 : Int32) (g12n7 : Int32) (g13n7 : Int32) (F2n7 : Nat → Int32) (F8n7 : Nat → Int32) (F1n7 : Nat → Int64) (F37n7 : Nat → Int32) (F38n7 : Nat → Int32), WT V → jeff [.inr 2, .inl 1, .inl 2, .inl 8, .inl 37, .inl 38] V0 V → (jis V (.inr 2) a0) → (jis V (.inl 2) tk) → (jis V (.inl 8) wc) → (jis V (.inl 1) sq) → (jis V (.inl 37) rc) → (jis V (.inl 38) bc) → (jfp [a0, tk, wc, sq, rc, bc] V0 V) → (V a0 = some (.inr (2, gs7a0))) → (gs7a0[0]? = some (.int g)) → (gs7a0[1]? = some (.int R)) → (gs7a0[2]? = some (.int sd)) → (gs7a0[11]? = some (.int g11n7)) → (gs7a0[12]? = some (.int g12n7)) → (gs7a0[13]? = some (.int g13n7)) → (gs7a0[3]? = some (.ref tk)) → (gs7a0[4]? = some (.ref wc)) → (gs7a0[5]? = some (.ref sq)) → (gs7a0[6]? = some (.ref rc)) → (gs7a0[7]? = some (.ref bc)) → (V tk = some (.inl (2, ln, .inl F2n7))) → (V wc = some (.inl (8, 21, .inl F8n7))) → (V sq = some (.inl (1, 21, .inr (.inl F1n7)))) → (V rc = some (.inl (37, 21, .inl F37n7))) → (V bc = some (.inl (38, 21, .inl F38n7))) → (1 ≤ i2n7.toInt ∧ i2n7.toInt ≤ 21) → (g13n7.toInt = 0 → i2n7.toInt = g11n7.toInt + 1) → (jtk g.toInt F2n7 []) → (jtal g.toInt F8n7 F1n7 F37n7 F38n7 g11n7.toInt g12n7.toInt g13n7.toInt) → (300 - i2n7.toInt).toNat < N → J tS mX4_holds d 7 [some (.ref a0), some (.int x1), some (.int i2n7)] [] V 0 0 (fun r V => (jPost [.inr 2, .inl 1, .inl 2, .inl 8, .inl 37, .inl 38] V0 (fun r _ => ∃ y : Int32, r = some (.int y) ∧ (0 ≤ y.toInt) ∧ (y.toInt ≤ 1) ∧ ((y.toInt = 1 ∧ jTT g.toInt x1.toInt.toNat jL0 ≤ 600000) ∨ (y.toInt = 0 ∧ 600000 < jTT g.toInt x1.toInt.toNat jL0)))) r V ∧ (∃ (TK2 WC2 : Nat → Int32) (SQ2 : Nat → Int64) (RC2 BC2 : Nat → Int32) (sp2 cd2 tg2 : Int32), V tk = some (.inl (2, ln, .inl TK2)) ∧ V wc = some (.inl (8, 21, .inl WC2)) ∧ V sq = some (.inl (1, 21, .inr (.inl SQ2))) ∧ V rc = some (.inl (37, 21, .inl RC2)) ∧ V bc = some (.inl (38, 21, .inl BC2)) ∧ jfI V a0 2 13 sp2 ∧ jfI V a0 2 11 cd2 ∧ jfI V a0 2 12 tg2 ∧ jtk g.toInt TK2 [] ∧ jtal g.toInt WC2 SQ2 RC2 BC2 cd2.toInt tg2.toInt sp2.toInt ∧ (jTT g.toInt x1.toInt.toNat jL0 ≤ 600000 → x1.toInt ≤ cd2.toInt)) ∧ jty V a0 (tk, wc, sq, rc, bc) g.toInt ∧ jtyr V (tk, wc, sq, rc, bc) g.toInt x1.toInt.toNat ∧ jfp [a0, tk, wc, sq, rc, bc] V0 V ∧ (∃ g2 : Int32, jfI V a0 2 0 g2 ∧ (g2.toInt = g.toInt)) ∧ (∃ R2 : Int32, jfI V a0 2 1 R2 ∧ (R2.toInt = R.toInt)) ∧ (∃ sd2 : Int32, jfI V a0 2 2 sd2 ∧ (sd2.toInt = sd.toInt))) := by
    intro N
    induction N with
    | zero => intro V i2n7 gs7a0 g11n7 g12n7 g13n7 F2n7 F8n7 F1n7 F37n7 F38n7 hW he ha0 hb_tk hb_wc hb_sq hb_rc hb_bc hfp hOgs7a0 hFgs7a0_0 hFgs7a0_1 hFgs7a0_2 hFgs7a0_11 hFgs7a0_12 hFgs7a0_13 hFgs7a0_3 hFgs7a0_4 hFgs7a0_5 hFgs7a0_6 hFgs7a0_7 hAF2n7 hAF8n7 hAF1n7 hAF37n7 hAF38n7 hi2 hnx htk htal hm; exact absurd hm (Nat.not_lt_zero _)
    | succ N ih =>
      intro V i2n7 gs7a0 g11n7 g12n7 g13n7 F2n7 F8n7 F1n7 F37n7 F38n7 hW he ha0 hb_tk hb_wc hb_sq hb_rc hb_bc hfp hOgs7a0 hFgs7a0_0 hFgs7a0_1 hFgs7a0_2 hFgs7a0_11 hFgs7a0_12 hFgs7a0_13 hFgs7a0_3 hFgs7a0_4 hFgs7a0_5 hFgs7a0_6 hFgs7a0_7 hAF2n7 hAF8n7 hAF1n7 hAF37n7 hAF38n7 hi2 hnx htk htal hm
      have ih7 := ih
      have hri2 := j_rng i2n7
      have hKgs7a0 : jokO V (jFs 2) gs7a0 := hW _ _ id hOgs7a0
      have hrgg11n7 : 0 ≤ g11n7.toInt ∧ g11n7.toInt ≤ 20 := jok_rngI hKgs7a0 rfl hFgs7a0_11
      have hrgg12n7 : (-2147483648) ≤ g12n7.toInt ∧ g12n7.toInt ≤ 2147483647 := jok_rngI hKgs7a0 rfl hFgs7a0_12
      have hrgg13n7 : 0 ≤ g13n7.toInt ∧ g13n7.toInt ≤ 1 := jok_rngI hKgs7a0 rfl hFgs7a0_13
      obtain ⟨hNF2n7, hvF2n7⟩ := WT_rngI (r := (0, 1)) hW id rfl hAF2n7
      clear hNF2n7
      obtain ⟨hNF8n7, hvF8n7⟩ := WT_rngI (r := ((-2147483648), 2147483647)) hW id rfl hAF8n7
      clear hNF8n7
      obtain ⟨hNF37n7, hvF37n7⟩ := WT_rngI (r := ((-2147483648), 2147483647)) hW id rfl hAF37n7
      clear hNF37n7
      obtain ⟨hNF38n7, hvF38n7⟩ := WT_rngI (r := ((-2147483648), 2147483647)) hW id rfl hAF38n7
      clear hNF38n7
      have hcb := htal.1
      refine J_iload_n dX4_holds_7 rfl ?_
      refine J_iload_n dX4_holds_8 rfl ?_
      refine Jz_icmp_gt (tgt := 38) jEq.rf jEq.rf dX4_holds_9 (by decide) (fun c9 => ?_) (fun c9 => ?_)
      · refine J_iload_n dX4_holds_38 rfl ?_
        refine J_aload_n dX4_holds_39 rfl ?_
        refine J_get jf_X4_35 dX4_holds_40 hOgs7a0 hFgs7a0_11 ?_
        refine Jz_icmp_gt (tgt := 50) jEq.rf jEq.rf dX4_holds_43 (by decide) (fun c43 => ?_) (fun c43 => ?_)
        · refine Jz_iconst 0 dX4_holds_50 (by decide) (fun y50 he50 => ?_)
          exact J_ret (r := some (.int _)) dX4_holds_51 ⟨rfl, _, rfl, (nar_b (by (try simp only [he50.eq, true_and, and_true]) <;> omega) (by (try simp only [he50.eq, true_and, and_true]) <;> omega))⟩ (⟨⟨hW, he, ⟨_, rfl, (by (try simp only [he50.eq, true_and, and_true]) <;> omega), (by (try simp only [he50.eq, true_and, and_true]) <;> omega), (by first | exact Or.inl ⟨he46.eq, htal.yes (by omega)⟩ | exact Or.inr ⟨he50.eq, htal.no (by omega) (by omega) (by omega)⟩)⟩⟩, ⟨F2n7, F8n7, F1n7, F37n7, F38n7, g13n7, g11n7, g12n7, hAF2n7, hAF8n7, hAF1n7, hAF37n7, hAF38n7, ⟨_, hOgs7a0, hFgs7a0_13⟩, ⟨_, hOgs7a0, hFgs7a0_11⟩, ⟨_, hOgs7a0, hFgs7a0_12⟩, htk, htal, (fun q => by first | omega | exact absurd (htal.no (n := x1.toInt.toNat) (by omega) (by omega) (by omega)) (by omega))⟩, ⟨g, R, sd, g11n7, g12n7, g13n7, ln, F2n7, F8n7, F1n7, F37n7, F38n7, ⟨rfl, hp2, hp3, hp4⟩, ⟨⟨_, hOgs7a0, hFgs7a0_0⟩, ⟨_, hOgs7a0, hFgs7a0_1⟩, ⟨_, hOgs7a0, hFgs7a0_2⟩, ⟨_, hOgs7a0, hFgs7a0_11⟩, ⟨_, hOgs7a0, hFgs7a0_12⟩, ⟨_, hOgs7a0, hFgs7a0_13⟩⟩, ⟨⟨_, hOgs7a0, hFgs7a0_3⟩, ⟨_, hOgs7a0, hFgs7a0_4⟩, ⟨_, hOgs7a0, hFgs7a0_5⟩, ⟨_, hOgs7a0, hFgs7a0_6⟩, ⟨_, hOgs7a0, hFgs7a0_7⟩⟩, ⟨hAF2n7, hAF8n7, hAF1n7, hAF37n7, hAF38n7⟩, htk, htal⟩, ⟨F8n7, F1n7, F37n7, F38n7, ⟨hAF8n7, hAF1n7, hAF37n7, hAF38n7⟩, fun q => htal.has (by first | omega | exact absurd (htal.no (n := x1.toInt.toNat) (by omega) (by omega) (by omega)) (by omega))⟩, hfp, ⟨_, ⟨_, hOgs7a0, hFgs7a0_0⟩, (by omega)⟩, ⟨_, ⟨_, hOgs7a0, hFgs7a0_1⟩, (by omega)⟩, ⟨_, ⟨_, hOgs7a0, hFgs7a0_2⟩, (by omega)⟩⟩)
        · refine Jz_iconst 1 dX4_holds_46 (by decide) (fun y46 he46 => ?_)
          refine J_goto (tgt := 51) dX4_holds_47 (by decide) ?_
          exact J_ret (r := some (.int _)) dX4_holds_51 ⟨rfl, _, rfl, (nar_b (by (try simp only [he46.eq, true_and, and_true]) <;> omega) (by (try simp only [he46.eq, true_and, and_true]) <;> omega))⟩ (⟨⟨hW, he, ⟨_, rfl, (by (try simp only [he46.eq, true_and, and_true]) <;> omega), (by (try simp only [he46.eq, true_and, and_true]) <;> omega), (by first | exact Or.inl ⟨he46.eq, htal.yes (by omega)⟩ | exact Or.inr ⟨he50.eq, htal.no (by omega) (by omega) (by omega)⟩)⟩⟩, ⟨F2n7, F8n7, F1n7, F37n7, F38n7, g13n7, g11n7, g12n7, hAF2n7, hAF8n7, hAF1n7, hAF37n7, hAF38n7, ⟨_, hOgs7a0, hFgs7a0_13⟩, ⟨_, hOgs7a0, hFgs7a0_11⟩, ⟨_, hOgs7a0, hFgs7a0_12⟩, htk, htal, (fun q => by first | omega | exact absurd (htal.no (n := x1.toInt.toNat) (by omega) (by omega) (by omega)) (by omega))⟩, ⟨g, R, sd, g11n7, g12n7, g13n7, ln, F2n7, F8n7, F1n7, F37n7, F38n7, ⟨rfl, hp2, hp3, hp4⟩, ⟨⟨_, hOgs7a0, hFgs7a0_0⟩, ⟨_, hOgs7a0, hFgs7a0_1⟩, ⟨_, hOgs7a0, hFgs7a0_2⟩, ⟨_, hOgs7a0, hFgs7a0_11⟩, ⟨_, hOgs7a0, hFgs7a0_12⟩, ⟨_, hOgs7a0, hFgs7a0_13⟩⟩, ⟨⟨_, hOgs7a0, hFgs7a0_3⟩, ⟨_, hOgs7a0, hFgs7a0_4⟩, ⟨_, hOgs7a0, hFgs7a0_5⟩, ⟨_, hOgs7a0, hFgs7a0_6⟩, ⟨_, hOgs7a0, hFgs7a0_7⟩⟩, ⟨hAF2n7, hAF8n7, hAF1n7, hAF37n7, hAF38n7⟩, htk, htal⟩, ⟨F8n7, F1n7, F37n7, F38n7, ⟨hAF8n7, hAF1n7, hAF37n7, hAF38n7⟩, fun q => htal.has (by first | omega | exact absurd (htal.no (n := x1.toInt.toNat) (by omega) (by omega) (by omega)) (by omega))⟩, hfp, ⟨_, ⟨_, hOgs7a0, hFgs7a0_0⟩, (by omega)⟩, ⟨_, ⟨_, hOgs7a0, hFgs7a0_1⟩, (by omega)⟩, ⟨_, ⟨_, hOgs7a0, hFgs7a0_2⟩, (by omega)⟩⟩)
      · refine J_iload_n dX4_holds_12 rfl ?_
        refine J_aload_n dX4_holds_13 rfl ?_
        refine J_get jf_X4_48 dX4_holds_14 hOgs7a0 hFgs7a0_1 ?_
        refine Jz_icmp_gt (tgt := 38) jEq.rf jEq.rf dX4_holds_17 (by decide) (fun c17 => ?_) (fun c17 => ?_)
        · refine J_iload_n dX4_holds_38 rfl ?_
          refine J_aload_n dX4_holds_39 rfl ?_
          refine J_get jf_X4_35 dX4_holds_40 hOgs7a0 hFgs7a0_11 ?_
          refine Jz_icmp_gt (tgt := 50) jEq.rf jEq.rf dX4_holds_43 (by decide) (fun c43 => ?_) (fun c43 => ?_)
          · refine Jz_iconst 0 dX4_holds_50 (by decide) (fun y50 he50 => ?_)
            exact J_ret (r := some (.int _)) dX4_holds_51 ⟨rfl, _, rfl, (nar_b (by (try simp only [he50.eq, true_and, and_true]) <;> omega) (by (try simp only [he50.eq, true_and, and_true]) <;> omega))⟩ (⟨⟨hW, he, ⟨_, rfl, (by (try simp only [he50.eq, true_and, and_true]) <;> omega), (by (try simp only [he50.eq, true_and, and_true]) <;> omega), (by first | exact Or.inl ⟨he46.eq, htal.yes (by omega)⟩ | exact Or.inr ⟨he50.eq, htal.no (by omega) (by omega) (by omega)⟩)⟩⟩, ⟨F2n7, F8n7, F1n7, F37n7, F38n7, g13n7, g11n7, g12n7, hAF2n7, hAF8n7, hAF1n7, hAF37n7, hAF38n7, ⟨_, hOgs7a0, hFgs7a0_13⟩, ⟨_, hOgs7a0, hFgs7a0_11⟩, ⟨_, hOgs7a0, hFgs7a0_12⟩, htk, htal, (fun q => by first | omega | exact absurd (htal.no (n := x1.toInt.toNat) (by omega) (by omega) (by omega)) (by omega))⟩, ⟨g, R, sd, g11n7, g12n7, g13n7, ln, F2n7, F8n7, F1n7, F37n7, F38n7, ⟨rfl, hp2, hp3, hp4⟩, ⟨⟨_, hOgs7a0, hFgs7a0_0⟩, ⟨_, hOgs7a0, hFgs7a0_1⟩, ⟨_, hOgs7a0, hFgs7a0_2⟩, ⟨_, hOgs7a0, hFgs7a0_11⟩, ⟨_, hOgs7a0, hFgs7a0_12⟩, ⟨_, hOgs7a0, hFgs7a0_13⟩⟩, ⟨⟨_, hOgs7a0, hFgs7a0_3⟩, ⟨_, hOgs7a0, hFgs7a0_4⟩, ⟨_, hOgs7a0, hFgs7a0_5⟩, ⟨_, hOgs7a0, hFgs7a0_6⟩, ⟨_, hOgs7a0, hFgs7a0_7⟩⟩, ⟨hAF2n7, hAF8n7, hAF1n7, hAF37n7, hAF38n7⟩, htk, htal⟩, ⟨F8n7, F1n7, F37n7, F38n7, ⟨hAF8n7, hAF1n7, hAF37n7, hAF38n7⟩, fun q => htal.has (by first | omega | exact absurd (htal.no (n := x1.toInt.toNat) (by omega) (by omega) (by omega)) (by omega))⟩, hfp, ⟨_, ⟨_, hOgs7a0, hFgs7a0_0⟩, (by omega)⟩, ⟨_, ⟨_, hOgs7a0, hFgs7a0_1⟩, (by omega)⟩, ⟨_, ⟨_, hOgs7a0, hFgs7a0_2⟩, (by omega)⟩⟩)
          · refine Jz_iconst 1 dX4_holds_46 (by decide) (fun y46 he46 => ?_)
            refine J_goto (tgt := 51) dX4_holds_47 (by decide) ?_
            exact J_ret (r := some (.int _)) dX4_holds_51 ⟨rfl, _, rfl, (nar_b (by (try simp only [he46.eq, true_and, and_true]) <;> omega) (by (try simp only [he46.eq, true_and, and_true]) <;> omega))⟩ (⟨⟨hW, he, ⟨_, rfl, (by (try simp only [he46.eq, true_and, and_true]) <;> omega), (by (try simp only [he46.eq, true_and, and_true]) <;> omega), (by first | exact Or.inl ⟨he46.eq, htal.yes (by omega)⟩ | exact Or.inr ⟨he50.eq, htal.no (by omega) (by omega) (by omega)⟩)⟩⟩, ⟨F2n7, F8n7, F1n7, F37n7, F38n7, g13n7, g11n7, g12n7, hAF2n7, hAF8n7, hAF1n7, hAF37n7, hAF38n7, ⟨_, hOgs7a0, hFgs7a0_13⟩, ⟨_, hOgs7a0, hFgs7a0_11⟩, ⟨_, hOgs7a0, hFgs7a0_12⟩, htk, htal, (fun q => by first | omega | exact absurd (htal.no (n := x1.toInt.toNat) (by omega) (by omega) (by omega)) (by omega))⟩, ⟨g, R, sd, g11n7, g12n7, g13n7, ln, F2n7, F8n7, F1n7, F37n7, F38n7, ⟨rfl, hp2, hp3, hp4⟩, ⟨⟨_, hOgs7a0, hFgs7a0_0⟩, ⟨_, hOgs7a0, hFgs7a0_1⟩, ⟨_, hOgs7a0, hFgs7a0_2⟩, ⟨_, hOgs7a0, hFgs7a0_11⟩, ⟨_, hOgs7a0, hFgs7a0_12⟩, ⟨_, hOgs7a0, hFgs7a0_13⟩⟩, ⟨⟨_, hOgs7a0, hFgs7a0_3⟩, ⟨_, hOgs7a0, hFgs7a0_4⟩, ⟨_, hOgs7a0, hFgs7a0_5⟩, ⟨_, hOgs7a0, hFgs7a0_6⟩, ⟨_, hOgs7a0, hFgs7a0_7⟩⟩, ⟨hAF2n7, hAF8n7, hAF1n7, hAF37n7, hAF38n7⟩, htk, htal⟩, ⟨F8n7, F1n7, F37n7, F38n7, ⟨hAF8n7, hAF1n7, hAF37n7, hAF38n7⟩, fun q => htal.has (by first | omega | exact absurd (htal.no (n := x1.toInt.toNat) (by omega) (by omega) (by omega)) (by omega))⟩, hfp, ⟨_, ⟨_, hOgs7a0, hFgs7a0_0⟩, (by omega)⟩, ⟨_, ⟨_, hOgs7a0, hFgs7a0_1⟩, (by omega)⟩, ⟨_, ⟨_, hOgs7a0, hFgs7a0_2⟩, (by omega)⟩⟩)
        · refine J_aload_n dX4_holds_20 rfl ?_
          refine J_get jf_X4_41 dX4_holds_21 hOgs7a0 hFgs7a0_13 ?_
          refine Jz_if_ne (tgt := 38) jEq.rf dX4_holds_24 (by decide) (fun c24 => ?_) (fun c24 => ?_)
          · refine J_iload_n dX4_holds_38 rfl ?_
            refine J_aload_n dX4_holds_39 rfl ?_
            refine J_get jf_X4_35 dX4_holds_40 hOgs7a0 hFgs7a0_11 ?_
            refine Jz_icmp_gt (tgt := 50) jEq.rf jEq.rf dX4_holds_43 (by decide) (fun c43 => ?_) (fun c43 => ?_)
            · refine Jz_iconst 0 dX4_holds_50 (by decide) (fun y50 he50 => ?_)
              exact J_ret (r := some (.int _)) dX4_holds_51 ⟨rfl, _, rfl, (nar_b (by (try simp only [he50.eq, true_and, and_true]) <;> omega) (by (try simp only [he50.eq, true_and, and_true]) <;> omega))⟩ (⟨⟨hW, he, ⟨_, rfl, (by (try simp only [he50.eq, true_and, and_true]) <;> omega), (by (try simp only [he50.eq, true_and, and_true]) <;> omega), (by first | exact Or.inl ⟨he46.eq, htal.yes (by omega)⟩ | exact Or.inr ⟨he50.eq, htal.no (by omega) (by omega) (by omega)⟩)⟩⟩, ⟨F2n7, F8n7, F1n7, F37n7, F38n7, g13n7, g11n7, g12n7, hAF2n7, hAF8n7, hAF1n7, hAF37n7, hAF38n7, ⟨_, hOgs7a0, hFgs7a0_13⟩, ⟨_, hOgs7a0, hFgs7a0_11⟩, ⟨_, hOgs7a0, hFgs7a0_12⟩, htk, htal, (fun q => by first | omega | exact absurd (htal.no (n := x1.toInt.toNat) (by omega) (by omega) (by omega)) (by omega))⟩, ⟨g, R, sd, g11n7, g12n7, g13n7, ln, F2n7, F8n7, F1n7, F37n7, F38n7, ⟨rfl, hp2, hp3, hp4⟩, ⟨⟨_, hOgs7a0, hFgs7a0_0⟩, ⟨_, hOgs7a0, hFgs7a0_1⟩, ⟨_, hOgs7a0, hFgs7a0_2⟩, ⟨_, hOgs7a0, hFgs7a0_11⟩, ⟨_, hOgs7a0, hFgs7a0_12⟩, ⟨_, hOgs7a0, hFgs7a0_13⟩⟩, ⟨⟨_, hOgs7a0, hFgs7a0_3⟩, ⟨_, hOgs7a0, hFgs7a0_4⟩, ⟨_, hOgs7a0, hFgs7a0_5⟩, ⟨_, hOgs7a0, hFgs7a0_6⟩, ⟨_, hOgs7a0, hFgs7a0_7⟩⟩, ⟨hAF2n7, hAF8n7, hAF1n7, hAF37n7, hAF38n7⟩, htk, htal⟩, ⟨F8n7, F1n7, F37n7, F38n7, ⟨hAF8n7, hAF1n7, hAF37n7, hAF38n7⟩, fun q => htal.has (by first | omega | exact absurd (htal.no (n := x1.toInt.toNat) (by omega) (by omega) (by omega)) (by omega))⟩, hfp, ⟨_, ⟨_, hOgs7a0, hFgs7a0_0⟩, (by omega)⟩, ⟨_, ⟨_, hOgs7a0, hFgs7a0_1⟩, (by omega)⟩, ⟨_, ⟨_, hOgs7a0, hFgs7a0_2⟩, (by omega)⟩⟩)
            · refine Jz_iconst 1 dX4_holds_46 (by decide) (fun y46 he46 => ?_)
              refine J_goto (tgt := 51) dX4_holds_47 (by decide) ?_
              exact J_ret (r := some (.int _)) dX4_holds_51 ⟨rfl, _, rfl, (nar_b (by (try simp only [he46.eq, true_and, and_true]) <;> omega) (by (try simp only [he46.eq, true_and, and_true]) <;> omega))⟩ (⟨⟨hW, he, ⟨_, rfl, (by (try simp only [he46.eq, true_and, and_true]) <;> omega), (by (try simp only [he46.eq, true_and, and_true]) <;> omega), (by first | exact Or.inl ⟨he46.eq, htal.yes (by omega)⟩ | exact Or.inr ⟨he50.eq, htal.no (by omega) (by omega) (by omega)⟩)⟩⟩, ⟨F2n7, F8n7, F1n7, F37n7, F38n7, g13n7, g11n7, g12n7, hAF2n7, hAF8n7, hAF1n7, hAF37n7, hAF38n7, ⟨_, hOgs7a0, hFgs7a0_13⟩, ⟨_, hOgs7a0, hFgs7a0_11⟩, ⟨_, hOgs7a0, hFgs7a0_12⟩, htk, htal, (fun q => by first | omega | exact absurd (htal.no (n := x1.toInt.toNat) (by omega) (by omega) (by omega)) (by omega))⟩, ⟨g, R, sd, g11n7, g12n7, g13n7, ln, F2n7, F8n7, F1n7, F37n7, F38n7, ⟨rfl, hp2, hp3, hp4⟩, ⟨⟨_, hOgs7a0, hFgs7a0_0⟩, ⟨_, hOgs7a0, hFgs7a0_1⟩, ⟨_, hOgs7a0, hFgs7a0_2⟩, ⟨_, hOgs7a0, hFgs7a0_11⟩, ⟨_, hOgs7a0, hFgs7a0_12⟩, ⟨_, hOgs7a0, hFgs7a0_13⟩⟩, ⟨⟨_, hOgs7a0, hFgs7a0_3⟩, ⟨_, hOgs7a0, hFgs7a0_4⟩, ⟨_, hOgs7a0, hFgs7a0_5⟩, ⟨_, hOgs7a0, hFgs7a0_6⟩, ⟨_, hOgs7a0, hFgs7a0_7⟩⟩, ⟨hAF2n7, hAF8n7, hAF1n7, hAF37n7, hAF38n7⟩, htk, htal⟩, ⟨F8n7, F1n7, F37n7, F38n7, ⟨hAF8n7, hAF1n7, hAF37n7, hAF38n7⟩, fun q => htal.has (by first | omega | exact absurd (htal.no (n := x1.toInt.toNat) (by omega) (by omega) (by omega)) (by omega))⟩, hfp, ⟨_, ⟨_, hOgs7a0, hFgs7a0_0⟩, (by omega)⟩, ⟨_, ⟨_, hOgs7a0, hFgs7a0_1⟩, (by omega)⟩, ⟨_, ⟨_, hOgs7a0, hFgs7a0_2⟩, (by omega)⟩⟩)
          · refine J_aload_n dX4_holds_27 rfl ?_
            refine J_iload_n dX4_holds_28 rfl ?_
            have hs0 : g13n7.toInt = 0 := by omega
            have hn2 := hnx hs0
            have hcz := (htal.2.2.2.2.2).elim (fun q => q.2 i2n7.toInt.toNat (by omega) (by omega)) (fun q => absurd q.1 (by omega))
            have htg := htal.2.1
            have htg6 := htal.2.2.1
            refine Jw_callV1 (q9 := (RX4, TX4, 14)) moX4_countLevel jw_ml_X4_58 jw_im_X4_countLevel jw_se_X4_countLevel ha0 rfl rfl dX4_holds_29 (w_X4_countLevel_z (d - 1) _ a0 i2n7 g R sd g11n7 g12n7 g13n7 tk wc sq rc bc ln F2n7 F8n7 F1n7 F37n7 F38n7 (by omega) hW  ha0 (by omega) (by omega) ⟨_, hOgs7a0, hFgs7a0_0⟩ ⟨_, hOgs7a0, hFgs7a0_1⟩ ⟨_, hOgs7a0, hFgs7a0_2⟩ ⟨_, hOgs7a0, hFgs7a0_11⟩ ⟨_, hOgs7a0, hFgs7a0_12⟩ ⟨_, hOgs7a0, hFgs7a0_13⟩ ⟨_, hOgs7a0, hFgs7a0_3⟩ ⟨_, hOgs7a0, hFgs7a0_4⟩ ⟨_, hOgs7a0, hFgs7a0_5⟩ ⟨_, hOgs7a0, hFgs7a0_6⟩ ⟨_, hOgs7a0, hFgs7a0_7⟩ hAF2n7 hAF8n7 hAF1n7 hAF37n7 hAF38n7 (by omega) (by omega) (by omega) (by omega) (by omega) (by omega) (by omega) (by rw [htg, show i2n7.toInt.toNat - 1 = g11n7.toInt.toNat by omega]) (by omega) (by omega) htk hcz.1 hcz.2.1 hcz.2.2.1 hcz.2.2.2) (by omega) (Nat.zero_le _) (Nat.zero_le _) (Nat.le_of_ble_eq_true rfl) (fun r29 V29 h29 => ?_)
            obtain ⟨h29, hX29_0, hX29_1, ⟨fv29_0, hfv29_0, hfp29_0⟩, ⟨fv29_1, hfv29_1, hfp29_1⟩, ⟨fv29_2, hfv29_2, hfp29_2⟩⟩ := h29
            obtain ⟨hW, hx29, hr29⟩ := h29
            have he := he.trans (hx29.sub (jsub_of rfl))
            have hfp := hfp.trans (hX29_1.sub (fun b hb => by simp only [List.mem_cons, List.not_mem_nil, or_false] at hb ⊢; first | (rcases hb with h9 | h9 | h9 | h9 | h9 | h9 <;> simp only [h9, true_or, or_true]) | omega))
            have ha0 := ha0.mono hx29.1
            have hb_tk := hb_tk.mono hx29.1
            have hb_wc := hb_wc.mono hx29.1
            have hb_sq := hb_sq.mono hx29.1
            have hb_rc := hb_rc.mono hx29.1
            have hb_bc := hb_bc.mono hx29.1
            obtain ⟨fs29a0, hOfs29a0, hRfs29a0⟩ := hx29.1.keep hOgs7a0
            have hKfs29a0 : jokO _ (jFs 2) fs29a0 := hW _ _ id hOfs29a0
            have hFfs29a0_3 := hRfs29a0 _ _ hFgs7a0_3
            have hFfs29a0_4 := hRfs29a0 _ _ hFgs7a0_4
            have hFfs29a0_5 := hRfs29a0 _ _ hFgs7a0_5
            have hFfs29a0_6 := hRfs29a0 _ _ hFgs7a0_6
            have hFfs29a0_7 := hRfs29a0 _ _ hFgs7a0_7
            cases hr29
            have hFv29_0 := hfv29_0.get hOfs29a0
            have hsb29_0 : g = fv29_0 := (jI_inj.mp hfp29_0).symm
            subst hsb29_0
            have hFv29_1 := hfv29_1.get hOfs29a0
            have hsb29_1 : R = fv29_1 := (jI_inj.mp hfp29_1).symm
            subst hsb29_1
            have hFv29_2 := hfv29_2.get hOfs29a0
            have hsb29_2 : sd = fv29_2 := (jI_inj.mp hfp29_2).symm
            subst hsb29_2
            obtain ⟨TK29, WC29, SQ29, RC29, BC29, sp29, cd29, tg29, hTa29, hWa29, hSa29, hRa29, hBa29, hspf29, hcdf29, htgf29, htkn, hcot, hcw, hcl29⟩ := hX29_0
            have htaln : jtal g.toInt WC29 SQ29 RC29 BC29 cd29.toInt tg29.toInt sp29.toInt := jtal.next (n := i2n7.toInt.toNat) (by rw [← hs0]; exact htal) (by omega) (by omega) hcot hcw (hcl29.imp (fun q => ⟨q.1, q.2.1, q.2.2.1, q.2.2.2.1, q.2.2.2.2⟩) id)
            have hFv2913 := hspf29.get hOfs29a0
            have hFv2911 := hcdf29.get hOfs29a0
            have hFv2912 := htgf29.get hOfs29a0
            obtain ⟨hN_TK29, hv_TK29⟩ := WT_rngI (r := (0, 1)) hW id rfl hTa29
            clear hN_TK29
            obtain ⟨hN_WC29, hv_WC29⟩ := WT_rngI (r := ((-2147483648), 2147483647)) hW id rfl hWa29
            clear hN_WC29
            obtain ⟨hN_RC29, hv_RC29⟩ := WT_rngI (r := ((-2147483648), 2147483647)) hW id rfl hRa29
            clear hN_RC29
            obtain ⟨hN_BC29, hv_BC29⟩ := WT_rngI (r := ((-2147483648), 2147483647)) hW id rfl hBa29
            clear hN_BC29
            refine Jz_iinc 1 dX4_holds_32 rfl rfl (by decide) jEq.rf (by decide) (by omega) (by omega) (fun y32 he32 => ?_)
            refine J_goto (tgt := 7) dX4_holds_35 (by decide) ?_
            refine J.mask [true, true, true] ?_
            exact ih7 _ y32 fs29a0 cd29 tg29 sp29 TK29 WC29 SQ29 RC29 BC29 hW he ha0 hb_tk hb_wc hb_sq hb_rc hb_bc hfp hOfs29a0 hFv29_0 hFv29_1 hFv29_2 hFv2911 hFv2912 hFv2913 hFfs29a0_3 hFfs29a0_4 hFfs29a0_5 hFfs29a0_6 hFfs29a0_7 hTa29 hWa29 hSa29 hRa29 hBa29 (by (try simp only [he32.eq, true_and, and_true]) <;> omega) (fun q => by rw [he32.eq]; rcases hcl29 with ⟨-, -, q3, -⟩ | ⟨q1, -⟩; omega; omega) htkn htaln (by (try simp only [he32.eq, true_and, and_true]) <;> omega)
  refine J.mask [true, true, true] ?_
  exact L7 _ _ y5 fs_a0 cd tg sp TK WC SQ RC BC hW he ha0 hb_tk hb_wc hb_sq hb_rc hb_bc hfp hO_a0 hF_g hF_R hF_sd hF_cd hF_tg hF_sp hF_tk hF_wc hF_sq hF_rc hF_bc ha_TK ha_WC ha_SQ ha_RC ha_BC (by (try simp only [he5.eq, true_and, and_true]) <;> omega) (fun _ => by rw [he5.eq]) hp7 hp8 (Nat.lt_succ_self _)
set_option maxRecDepth 100000 in
set_option maxHeartbeats 8000000 in
theorem w_X4_init_t {tS : jTS} (d : Nat) (V0 : jH) (a0 : Nat) (x1 : Int32) (wc : Nat) (fo : Nat) (rn : Nat) (WC : Nat → Int32) (FO : Nat → Int32) (RN : Nat → Int32) (Q : Option Value → jH → Prop) (hd : 1 ≤ d) (hW : WT V0) (ha0 : jis V0 (.inr 2) a0) (hr_wc : jfR V0 a0 2 4 wc) (hr_fo : jfR V0 a0 2 8 fo) (hr_rn : jfR V0 a0 2 9 rn) (ha_WC : V0 wc = some (.inl (8, 21, .inl WC))) (ha_FO : V0 fo = some (.inl (13, 8, .inl FO))) (ha_RN : V0 rn = some (.inl (9, 7, .inl RN))) (hQ : ∀ (r : Option Value) (V : jH), (fun r V => (jPost [.inl 8, .inl 13, .inl 9] V0 rV) r V ∧ (∃ WC2 FO2 RN2 : Nat → Int32, V wc = some (.inl (8, 21, .inl WC2)) ∧ V fo = some (.inl (13, 8, .inl FO2)) ∧ V rn = some (.inl (9, 7, .inl RN2)) ∧ (WC2 0).toInt = 1 ∧ (∀ k : Nat, 1 ≤ k → k ≤ 20 → (WC2 k).toInt = 0) ∧ (∀ k : Nat, k < 8 → (FO2 k).toInt = -1) ∧ ∀ k : Nat, k < 7 → (RN2 k).toInt = -1) ∧ jfp [wc, fo, rn] V0 V) r V → Q r V) : J tS mX4_init d 142 [some (.ref a0), some (.int x1), none] [] V0 0 0 Q := by
  have hrx1 := j_rng x1
  have he : jeff [.inl 8, .inl 13, .inl 9] V0 V0 := jeff.refl _ _
  have hfp : jfp [wc, fo, rn] V0 V0 := jfp.rf
  obtain ⟨fs_a0, hO_a0, hK_a0⟩ := WT_obj hW id ha0
  have hF_wc := hr_wc.get hO_a0
  obtain ⟨w_wc, hFq_wc, b_wc, hbq_wc, hb_wc⟩ := hK_a0.2 4 (.inr (some (.inl 8))) rfl
  cases hF_wc.symm.trans (hFq_wc.trans (congrArg some hbq_wc))
  have hF_fo := hr_fo.get hO_a0
  obtain ⟨w_fo, hFq_fo, b_fo, hbq_fo, hb_fo⟩ := hK_a0.2 8 (.inr (some (.inl 13))) rfl
  cases hF_fo.symm.trans (hFq_fo.trans (congrArg some hbq_fo))
  have hF_rn := hr_rn.get hO_a0
  obtain ⟨w_rn, hFq_rn, b_rn, hbq_rn, hb_rn⟩ := hK_a0.2 9 (.inr (some (.inl 9))) rfl
  cases hF_rn.symm.trans (hFq_rn.trans (congrArg some hbq_rn))
  obtain ⟨hN_WC, hv_WC⟩ := WT_rngI (r := ((-2147483648), 2147483647)) hW id rfl ha_WC
  clear hN_WC
  obtain ⟨hN_FO, hv_FO⟩ := WT_rngI (r := ((-2147483648), 2147483647)) hW id rfl ha_FO
  clear hN_FO
  obtain ⟨hN_RN, hv_RN⟩ := WT_rngI (r := ((-2147483648), 2147483647)) hW id rfl ha_RN
  clear hN_RN
  refine Jz_iconst 0 dX4_init_142 (by decide) (fun y142 he142 => ?_)
  refine J_istore_n dX4_init_143 rfl (by decide) ?_
  have L144 : ∀ (N : Nat) (V : jH) (i2n144 : Int32) (F8n144 : Nat → Int32), WT V → jeff [.inl 8, .inl 13, .inl 9] V0 V → (jis V (.inr 2) a0) → (jis V (.inl 8) wc) → (jis V (.inl 13) fo) → (jis V (.inl 9) rn) → (jfp [wc, fo, rn] V0 V) → (V a0 = some (.inr (2, fs_a0))) → (jokO V (jFs 2) fs_a0) → (V wc = some (.inl (8, 21, .inl F8n144))) → (V fo = some (.inl (13, 8, .inl FO))) → (V rn = some (.inl (9, 7, .inl RN))) → (0 ≤ i2n144.toInt ∧ i2n144.toInt ≤ 21) → (∀ k : Nat, (k : Int) < i2n144.toInt → (F8n144 k).toInt = (if k = 0 then 1 else 0)) → (300 - i2n144.toInt).toNat < N → J tS mX4_init d 144 [some (.ref a0), none, some (.int i2n144)] [] V 0 0 Q := by
    intro N
    induction N with
    | zero => intro V i2n144 F8n144 hW he ha0 hb_wc hb_fo hb_rn hfp hO_a0 hK_a0 hAF8n144 ha_FO ha_RN hi2 hw hm; exact absurd hm (Nat.not_lt_zero _)
    | succ N ih =>
      intro V i2n144 F8n144 hW he ha0 hb_wc hb_fo hb_rn hfp hO_a0 hK_a0 hAF8n144 ha_FO ha_RN hi2 hw hm
      have ih144 := ih
      have hri2 := j_rng i2n144
      obtain ⟨hNF8n144, hvF8n144⟩ := WT_rngI (r := ((-2147483648), 2147483647)) hW id rfl hAF8n144
      clear hNF8n144
      refine J_iload_n dX4_init_144 rfl ?_
      refine J_aload_n dX4_init_145 rfl ?_
      refine J_get jf_X4_9 dX4_init_146 hO_a0 hF_wc ?_
      refine J_alen dX4_init_149 hAF8n144 rfl rfl ?_
      have he149 : jEq (Int32.ofNat 21).toInt 21 := nI_toInt (by decide)
      generalize Int32.ofNat 21 = y149 at he149 ⊢
      refine Jz_icmp_ge (tgt := 174) jEq.rf he149 dX4_init_150 (by decide) (fun c150 => ?_) (fun c150 => ?_)
      · refine Jz_iconst 0 dX4_init_174 (by decide) (fun y174 he174 => ?_)
        refine J_istore_n dX4_init_175 rfl (by decide) ?_
        have L176 : ∀ (N : Nat) (V : jH) (i2n176 : Int32) (F13n176 : Nat → Int32), WT V → jeff [.inl 8, .inl 13, .inl 9] V0 V → (jis V (.inr 2) a0) → (jis V (.inl 8) wc) → (jis V (.inl 13) fo) → (jis V (.inl 9) rn) → (jfp [wc, fo, rn] V0 V) → (V a0 = some (.inr (2, fs_a0))) → (jokO V (jFs 2) fs_a0) → (V fo = some (.inl (13, 8, .inl F13n176))) → (V wc = some (.inl (8, 21, .inl F8n144))) → (V rn = some (.inl (9, 7, .inl RN))) → (0 ≤ i2n176.toInt ∧ i2n176.toInt ≤ 8) → (∀ k : Nat, (k : Int) < i2n176.toInt → (F13n176 k).toInt = -1) → (300 - i2n176.toInt).toNat < N → J tS mX4_init d 176 [some (.ref a0), none, some (.int i2n176)] [] V 0 0 Q := by
          intro N
          induction N with
          | zero => intro V i2n176 F13n176 hW he ha0 hb_wc hb_fo hb_rn hfp hO_a0 hK_a0 hAF13n176 hAF8n144 ha_RN hj2 hv hm; exact absurd hm (Nat.not_lt_zero _)
          | succ N ih =>
            intro V i2n176 F13n176 hW he ha0 hb_wc hb_fo hb_rn hfp hO_a0 hK_a0 hAF13n176 hAF8n144 ha_RN hj2 hv hm
            have ih176 := ih
            have hri2 := j_rng i2n176
            obtain ⟨hNF13n176, hvF13n176⟩ := WT_rngI (r := ((-2147483648), 2147483647)) hW id rfl hAF13n176
            clear hNF13n176
            refine J_iload_n dX4_init_176 rfl ?_
            refine J_aload_n dX4_init_177 rfl ?_
            refine J_get jf_X4_25 dX4_init_178 hO_a0 hF_fo ?_
            refine J_alen dX4_init_181 hAF13n176 rfl rfl ?_
            have he181 : jEq (Int32.ofNat 8).toInt 8 := nI_toInt (by decide)
            generalize Int32.ofNat 8 = y181 at he181 ⊢
            refine Jz_icmp_ge (tgt := 198) jEq.rf he181 dX4_init_182 (by decide) (fun c182 => ?_) (fun c182 => ?_)
            · refine Jz_iconst 0 dX4_init_198 (by decide) (fun y198 he198 => ?_)
              refine J_istore_n dX4_init_199 rfl (by decide) ?_
              have L200 : ∀ (N : Nat) (V : jH) (i2n200 : Int32) (F9n200 : Nat → Int32), WT V → jeff [.inl 8, .inl 13, .inl 9] V0 V → (jis V (.inr 2) a0) → (jis V (.inl 8) wc) → (jis V (.inl 13) fo) → (jis V (.inl 9) rn) → (jfp [wc, fo, rn] V0 V) → (V a0 = some (.inr (2, fs_a0))) → (jokO V (jFs 2) fs_a0) → (V rn = some (.inl (9, 7, .inl F9n200))) → (V wc = some (.inl (8, 21, .inl F8n144))) → (V fo = some (.inl (13, 8, .inl F13n176))) → (0 ≤ i2n200.toInt ∧ i2n200.toInt ≤ 7) → (∀ k : Nat, (k : Int) < i2n200.toInt → (F9n200 k).toInt = -1) → (300 - i2n200.toInt).toNat < N → J tS mX4_init d 200 [some (.ref a0), none, some (.int i2n200)] [] V 0 0 Q := by
                intro N
                induction N with
                | zero => intro V i2n200 F9n200 hW he ha0 hb_wc hb_fo hb_rn hfp hO_a0 hK_a0 hAF9n200 hAF8n144 hAF13n176 hk2 hu hm; exact absurd hm (Nat.not_lt_zero _)
                | succ N ih =>
                  intro V i2n200 F9n200 hW he ha0 hb_wc hb_fo hb_rn hfp hO_a0 hK_a0 hAF9n200 hAF8n144 hAF13n176 hk2 hu hm
                  have ih200 := ih
                  have hri2 := j_rng i2n200
                  obtain ⟨hNF9n200, hvF9n200⟩ := WT_rngI (r := ((-2147483648), 2147483647)) hW id rfl hAF9n200
                  clear hNF9n200
                  refine J_iload_n dX4_init_200 rfl ?_
                  refine J_aload_n dX4_init_201 rfl ?_
                  refine J_get jf_X4_28 dX4_init_202 hO_a0 hF_rn ?_
                  refine J_alen dX4_init_205 hAF9n200 rfl rfl ?_
                  have he205 : jEq (Int32.ofNat 7).toInt 7 := nI_toInt (by decide)
                  generalize Int32.ofNat 7 = y205 at he205 ⊢
                  refine Jz_icmp_ge (tgt := 222) jEq.rf he205 dX4_init_206 (by decide) (fun c206 => ?_) (fun c206 => ?_)
                  · exact J_ret (r := none) dX4_init_222 ⟨rfl, rfl⟩ (hQ _ _ (⟨⟨hW, he, rfl⟩, ⟨F8n144, F13n176, F9n200, hAF8n144, hAF13n176, hAF9n200, (by have q := hw 0 (by omega); rw [if_pos rfl] at q; exact q), (fun k k1 k2 => by have q := hw k (by omega); rw [if_neg (by omega)] at q; exact q), (fun k hk => hv k (by omega)), (fun k hk => hu k (by omega))⟩, hfp⟩))
                  · refine J_aload_n dX4_init_209 rfl ?_
                    refine J_get jf_X4_28 dX4_init_210 hO_a0 hF_rn ?_
                    refine J_iload_n dX4_init_213 rfl ?_
                    refine Jz_iconst (-1) dX4_init_214 (by decide) (fun y214 he214 => ?_)
                    refine Jz_iastB (r := ((-2147483648), 2147483647)) jEq.rf he214 hW id dX4_init_215 hAF9n200 rfl rfl (by omega) (by omega) (by omega) (by omega) (fun V215 G215 hW hx215 hA215 hp215 ho215 hB215 => ?_)
                    obtain ⟨hN215, hv215⟩ := WT_rngI (r := ((-2147483648), 2147483647)) hW id rfl hA215
                    clear hN215
                    have he := he.trans (hx215.sub (jsub_of rfl))
                    have hfp := hfp.trans (jfp.one hB215 (List.mem_cons_of_mem _ (List.mem_cons_of_mem _ List.mem_cons_self)))
                    have ha0 := ha0.mono hx215.1
                    have hb_wc := hb_wc.mono hx215.1
                    have hb_fo := hb_fo.mono hx215.1
                    have hb_rn := hb_rn.mono hx215.1
                    have hO_a0 := hx215.2 _ _ hO_a0 (jnot_of rfl)
                    have hK_a0 := hK_a0.mono hx215.1
                    have hAF8n144 := hx215.2 _ _ hAF8n144 (jnot_of rfl)
                    have hAF13n176 := hx215.2 _ _ hAF13n176 (jnot_of rfl)
                    refine Jz_iinc 1 dX4_init_216 rfl rfl (by decide) jEq.rf (by decide) (by omega) (by omega) (fun y216 he216 => ?_)
                    refine J_goto (tgt := 200) dX4_init_219 (by decide) ?_
                    refine J.mask [true, false, true] ?_
                    exact ih200 _ y216 G215 hW he ha0 hb_wc hb_fo hb_rn hfp hO_a0 hK_a0 hA215 hAF8n144 hAF13n176 (by (try simp only [he216.eq, true_and, and_true]) <;> omega) (fun k hk => by rw [he216.eq] at hk; by_cases h9 : (k : Int) = i2n200.toInt; (rw [show k = i2n200.toInt.toNat by omega, hp215, he214.eq]); (rw [ho215 k (by omega)]; exact hu k (by omega))) (by (try simp only [he216.eq, true_and, and_true]) <;> omega)
              refine J.mask [true, false, true] ?_
              exact L200 _ _ y198 RN hW he ha0 hb_wc hb_fo hb_rn hfp hO_a0 hK_a0 ha_RN hAF8n144 hAF13n176 (by (try simp only [he198.eq, true_and, and_true]) <;> omega) (fun k hk => absurd hk (by rw [he198.eq]; omega)) (Nat.lt_succ_self _)
            · refine J_aload_n dX4_init_185 rfl ?_
              refine J_get jf_X4_25 dX4_init_186 hO_a0 hF_fo ?_
              refine J_iload_n dX4_init_189 rfl ?_
              refine Jz_iconst (-1) dX4_init_190 (by decide) (fun y190 he190 => ?_)
              refine Jz_iastB (r := ((-2147483648), 2147483647)) jEq.rf he190 hW id dX4_init_191 hAF13n176 rfl rfl (by omega) (by omega) (by omega) (by omega) (fun V191 G191 hW hx191 hA191 hp191 ho191 hB191 => ?_)
              obtain ⟨hN191, hv191⟩ := WT_rngI (r := ((-2147483648), 2147483647)) hW id rfl hA191
              clear hN191
              have he := he.trans (hx191.sub (jsub_of rfl))
              have hfp := hfp.trans (jfp.one hB191 (List.mem_cons_of_mem _ List.mem_cons_self))
              have ha0 := ha0.mono hx191.1
              have hb_wc := hb_wc.mono hx191.1
              have hb_fo := hb_fo.mono hx191.1
              have hb_rn := hb_rn.mono hx191.1
              have hO_a0 := hx191.2 _ _ hO_a0 (jnot_of rfl)
              have hK_a0 := hK_a0.mono hx191.1
              have hAF8n144 := hx191.2 _ _ hAF8n144 (jnot_of rfl)
              have ha_RN := hx191.2 _ _ ha_RN (jnot_of rfl)
              refine Jz_iinc 1 dX4_init_192 rfl rfl (by decide) jEq.rf (by decide) (by omega) (by omega) (fun y192 he192 => ?_)
              refine J_goto (tgt := 176) dX4_init_195 (by decide) ?_
              refine J.mask [true, false, true] ?_
              exact ih176 _ y192 G191 hW he ha0 hb_wc hb_fo hb_rn hfp hO_a0 hK_a0 hA191 hAF8n144 ha_RN (by (try simp only [he192.eq, true_and, and_true]) <;> omega) (fun k hk => by rw [he192.eq] at hk; by_cases h9 : (k : Int) = i2n176.toInt; (rw [show k = i2n176.toInt.toNat by omega, hp191, he190.eq]); (rw [ho191 k (by omega)]; exact hv k (by omega))) (by (try simp only [he192.eq, true_and, and_true]) <;> omega)
        refine J.mask [true, false, true] ?_
        exact L176 _ _ y174 FO hW he ha0 hb_wc hb_fo hb_rn hfp hO_a0 hK_a0 ha_FO hAF8n144 ha_RN (by (try simp only [he174.eq, true_and, and_true]) <;> omega) (fun k hk => absurd hk (by rw [he174.eq]; omega)) (Nat.lt_succ_self _)
      · refine J_aload_n dX4_init_153 rfl ?_
        refine J_get jf_X4_9 dX4_init_154 hO_a0 hF_wc ?_
        refine J_iload_n dX4_init_157 rfl ?_
        refine J_iload_n dX4_init_158 rfl ?_
        refine Jz_if_ne (tgt := 166) jEq.rf dX4_init_159 (by decide) (fun c159 => ?_) (fun c159 => ?_)
        · refine Jz_iconst 0 dX4_init_166 (by decide) (fun y166 he166 => ?_)
          refine Jz_iastB (r := ((-2147483648), 2147483647)) jEq.rf he166 hW id dX4_init_167 hAF8n144 rfl rfl (by omega) (by omega) (by omega) (by omega) (fun V167 G167 hW hx167 hA167 hp167 ho167 hB167 => ?_)
          obtain ⟨hN167, hv167⟩ := WT_rngI (r := ((-2147483648), 2147483647)) hW id rfl hA167
          clear hN167
          have he := he.trans (hx167.sub (jsub_of rfl))
          have hfp := hfp.trans (jfp.one hB167 List.mem_cons_self)
          have ha0 := ha0.mono hx167.1
          have hb_wc := hb_wc.mono hx167.1
          have hb_fo := hb_fo.mono hx167.1
          have hb_rn := hb_rn.mono hx167.1
          have hO_a0 := hx167.2 _ _ hO_a0 (jnot_of rfl)
          have hK_a0 := hK_a0.mono hx167.1
          have ha_FO := hx167.2 _ _ ha_FO (jnot_of rfl)
          have ha_RN := hx167.2 _ _ ha_RN (jnot_of rfl)
          refine Jz_iinc 1 dX4_init_168 rfl rfl (by decide) jEq.rf (by decide) (by omega) (by omega) (fun y168 he168 => ?_)
          refine J_goto (tgt := 144) dX4_init_171 (by decide) ?_
          refine J.mask [true, false, true] ?_
          exact ih144 _ y168 G167 hW he ha0 hb_wc hb_fo hb_rn hfp hO_a0 hK_a0 hA167 ha_FO ha_RN (by (try simp only [he168.eq, true_and, and_true]) <;> omega) (fun k hk => by rw [he168.eq] at hk; by_cases h9 : (k : Int) = i2n144.toInt; (rw [show k = i2n144.toInt.toNat by omega, hp167, he166.eq, if_neg (by omega)]); (rw [ho167 k (by omega)]; exact hw k (by omega))) (by (try simp only [he168.eq, true_and, and_true]) <;> omega)
        · refine Jz_iconst 1 dX4_init_162 (by decide) (fun y162 he162 => ?_)
          refine J_goto (tgt := 167) dX4_init_163 (by decide) ?_
          refine Jz_iastB (r := ((-2147483648), 2147483647)) jEq.rf he162 hW id dX4_init_167 hAF8n144 rfl rfl (by omega) (by omega) (by omega) (by omega) (fun V167 G167 hW hx167 hA167 hp167 ho167 hB167 => ?_)
          obtain ⟨hN167, hv167⟩ := WT_rngI (r := ((-2147483648), 2147483647)) hW id rfl hA167
          clear hN167
          have he := he.trans (hx167.sub (jsub_of rfl))
          have hfp := hfp.trans (jfp.one hB167 List.mem_cons_self)
          have ha0 := ha0.mono hx167.1
          have hb_wc := hb_wc.mono hx167.1
          have hb_fo := hb_fo.mono hx167.1
          have hb_rn := hb_rn.mono hx167.1
          have hO_a0 := hx167.2 _ _ hO_a0 (jnot_of rfl)
          have hK_a0 := hK_a0.mono hx167.1
          have ha_FO := hx167.2 _ _ ha_FO (jnot_of rfl)
          have ha_RN := hx167.2 _ _ ha_RN (jnot_of rfl)
          refine Jz_iinc 1 dX4_init_168 rfl rfl (by decide) jEq.rf (by decide) (by omega) (by omega) (fun y168 he168 => ?_)
          refine J_goto (tgt := 144) dX4_init_171 (by decide) ?_
          refine J.mask [true, false, true] ?_
          exact ih144 _ y168 G167 hW he ha0 hb_wc hb_fo hb_rn hfp hO_a0 hK_a0 hA167 ha_FO ha_RN (by (try simp only [he168.eq, true_and, and_true]) <;> omega) (fun k hk => by rw [he168.eq] at hk; by_cases h9 : (k : Int) = i2n144.toInt; (rw [show k = i2n144.toInt.toNat by omega, hp167, he162.eq, if_pos (by omega)]); (rw [ho167 k (by omega)]; exact hw k (by omega))) (by (try simp only [he168.eq, true_and, and_true]) <;> omega)
  refine J.mask [true, false, true] ?_
  exact L144 _ _ y142 WC hW he ha0 hb_wc hb_fo hb_rn hfp hO_a0 hK_a0 ha_WC ha_FO ha_RN (by (try simp only [he142.eq, true_and, and_true]) <;> omega) (fun k hk => absurd hk (by rw [he142.eq]; omega)) (Nat.lt_succ_self _)
set_option maxRecDepth 100000 in
set_option maxHeartbeats 4000000 in
theorem w_X4_init_z {tS : jTS} (d : Nat) (V0 : jH) (q : Nat) (x1 : Int32)  (hd : 1 ≤ d) (hW : WTx (fun a => False ∨ a = q) V0) (hq : V0 q = some (.inr (2, [.int 0, .int 0, .int 0, .null, .null, .null, .null, .null, .null, .null, .int 0, .int 0, .int 0, .int 0])))  (hg0 : 0 ≤ x1.toInt) (hg3 : x1.toInt ≤ 3) : jTot tS mX4_init d [.ref q, .int x1] V0 7 15724 (fun r V => r = none ∧ WTx (fun _ => False) V ∧ jeff [.inr 2] V0 V ∧ jis V (.inr 2) q ∧ (jtyn V0 V q x1.toInt)) := by
  refine jTot.of_J [some (.ref q), some (.int x1), none] moX4_init (Nat.le_of_ble_eq_true rfl) rfl ?_
  have he : jeff [.inr 2] V0 V0 := jeff.refl _ _
  have hkp : jfa [q] V0 V0 := jfa.rf
  refine J_aload_n dX4_init_0 rfl ?_
  refine J_objInit jw_ml_X4_3 jw_oi2 jw_oi3 dX4_init_1 (by omega) (Nat.le_of_ble_eq_true rfl) ?_
  refine J_aload_n dX4_init_4 rfl ?_
  refine J_bipush (v := 21) dX4_init_5 (by decide) ?_
  refine Jc_newax (atype := .int) (t := 8) (B := 21) (x := .inl (fun _ => 0)) jw_ac_int rfl (fun _ h => by cases h) (by decide) dX4_init_7 (by decide) (by decide) (by decide) (fun _ _ => rfl) (fun hN => jok_zI rfl (by decide) (by decide) (fun m h => by cases h <;> rfl) hN) (by decide) (by decide) hW (fun b7 V7 hn7 hb7 hk7 hW hx7 hA7 => ?_)
  have hz7 := he.1.none hn7
  have hkp := hkp.trans he.1 (jfa.new hk7)
  have he := he.trans (hx7.sub (jsub_of rfl))
  have hq := hk7 _ _ hq
  have hA7 : V7 b7 = some (.inl (8, 21, .inl (fun _ => 0))) := hA7
  refine Jc_putF jf_X4_9 jt_X4_4 rfl (fun _ h => by cases h; rfl) dX4_init_9 hq rfl rfl (Nat.le_of_ble_eq_true rfl) (fun _ h => by cases h) hW (fun V9 hq hW hx9 hB9 => ?_)
  have hq : V9 q = some (.inr (2, [.int 0, .int 0, .int 0, .null, .ref b7, .null, .null, .null, .null, .null, .int 0, .int 0, .int 0, .int 0])) := hq
  have hkp := hkp.trans he.1 (jfa.one hB9)
  have he := he.trans (hx9.sub (jsub_of rfl))
  have hb7 := hb7.mono hx9.1
  have hA7 := hx9.2 _ _ hA7 (jnot_of rfl)
  refine J_aload_n dX4_init_12 rfl ?_
  refine J_bipush (v := 21) dX4_init_13 (by decide) ?_
  refine Jc_newax (atype := .long) (t := 1) (B := 21) (x := .inr (.inl (fun _ => 0))) jw_ac_long rfl (fun _ h => by cases h) (by decide) dX4_init_15 (by decide) (by decide) (by decide) (fun _ _ => rfl) (fun hN => jok_zL rfl (fun m h => by cases h <;> rfl) hN) (by decide) (by decide) hW (fun b15 V15 hn15 hb15 hk15 hW hx15 hA15 => ?_)
  have hz15 := he.1.none hn15
  have hkp := hkp.trans he.1 (jfa.new hk15)
  have he := he.trans (hx15.sub (jsub_of rfl))
  have hb7 := hb7.mono hx15.1
  have hq := hk15 _ _ hq
  have hA7 := hk15 _ _ hA7
  have hA15 : V15 b15 = some (.inl (1, 21, .inr (.inl (fun _ => 0)))) := hA15
  refine Jc_putF jf_X4_15 jt_X4_5 rfl (fun _ h => by cases h; rfl) dX4_init_17 hq rfl rfl (Nat.le_of_ble_eq_true rfl) (fun _ h => by cases h) hW (fun V17 hq hW hx17 hB17 => ?_)
  have hq : V17 q = some (.inr (2, [.int 0, .int 0, .int 0, .null, .ref b7, .ref b15, .null, .null, .null, .null, .int 0, .int 0, .int 0, .int 0])) := hq
  have hkp := hkp.trans he.1 (jfa.one hB17)
  have he := he.trans (hx17.sub (jsub_of rfl))
  have hb7 := hb7.mono hx17.1
  have hb15 := hb15.mono hx17.1
  have hA7 := hx17.2 _ _ hA7 (jnot_of rfl)
  have hA15 := hx17.2 _ _ hA15 (jnot_of rfl)
  refine J_aload_n dX4_init_20 rfl ?_
  refine J_bipush (v := 21) dX4_init_21 (by decide) ?_
  refine Jc_newax (atype := .int) (t := 37) (B := 21) (x := .inl (fun _ => 0)) jw_ac_int rfl (fun _ h => by cases h) (by decide) dX4_init_23 (by decide) (by decide) (by decide) (fun _ _ => rfl) (fun hN => jok_zI rfl (by decide) (by decide) (fun m h => by cases h <;> rfl) hN) (by decide) (by decide) hW (fun b23 V23 hn23 hb23 hk23 hW hx23 hA23 => ?_)
  have hz23 := he.1.none hn23
  have hkp := hkp.trans he.1 (jfa.new hk23)
  have he := he.trans (hx23.sub (jsub_of rfl))
  have hb7 := hb7.mono hx23.1
  have hb15 := hb15.mono hx23.1
  have hq := hk23 _ _ hq
  have hA7 := hk23 _ _ hA7
  have hA15 := hk23 _ _ hA15
  have hA23 : V23 b23 = some (.inl (37, 21, .inl (fun _ => 0))) := hA23
  refine Jc_putF jf_X4_19 jt_X4_6 rfl (fun _ h => by cases h; rfl) dX4_init_25 hq rfl rfl (Nat.le_of_ble_eq_true rfl) (fun _ h => by cases h) hW (fun V25 hq hW hx25 hB25 => ?_)
  have hq : V25 q = some (.inr (2, [.int 0, .int 0, .int 0, .null, .ref b7, .ref b15, .ref b23, .null, .null, .null, .int 0, .int 0, .int 0, .int 0])) := hq
  have hkp := hkp.trans he.1 (jfa.one hB25)
  have he := he.trans (hx25.sub (jsub_of rfl))
  have hb7 := hb7.mono hx25.1
  have hb15 := hb15.mono hx25.1
  have hb23 := hb23.mono hx25.1
  have hA7 := hx25.2 _ _ hA7 (jnot_of rfl)
  have hA15 := hx25.2 _ _ hA15 (jnot_of rfl)
  have hA23 := hx25.2 _ _ hA23 (jnot_of rfl)
  refine J_aload_n dX4_init_28 rfl ?_
  refine J_bipush (v := 21) dX4_init_29 (by decide) ?_
  refine Jc_newax (atype := .int) (t := 38) (B := 21) (x := .inl (fun _ => 0)) jw_ac_int rfl (fun _ h => by cases h) (by decide) dX4_init_31 (by decide) (by decide) (by decide) (fun _ _ => rfl) (fun hN => jok_zI rfl (by decide) (by decide) (fun m h => by cases h <;> rfl) hN) (by decide) (by decide) hW (fun b31 V31 hn31 hb31 hk31 hW hx31 hA31 => ?_)
  have hz31 := he.1.none hn31
  have hkp := hkp.trans he.1 (jfa.new hk31)
  have he := he.trans (hx31.sub (jsub_of rfl))
  have hb7 := hb7.mono hx31.1
  have hb15 := hb15.mono hx31.1
  have hb23 := hb23.mono hx31.1
  have hq := hk31 _ _ hq
  have hA7 := hk31 _ _ hA7
  have hA15 := hk31 _ _ hA15
  have hA23 := hk31 _ _ hA23
  have hA31 : V31 b31 = some (.inl (38, 21, .inl (fun _ => 0))) := hA31
  refine Jc_putF jf_X4_22 jt_X4_7 rfl (fun _ h => by cases h; rfl) dX4_init_33 hq rfl rfl (Nat.le_of_ble_eq_true rfl) (fun _ h => by cases h) hW (fun V33 hq hW hx33 hB33 => ?_)
  have hq : V33 q = some (.inr (2, [.int 0, .int 0, .int 0, .null, .ref b7, .ref b15, .ref b23, .ref b31, .null, .null, .int 0, .int 0, .int 0, .int 0])) := hq
  have hkp := hkp.trans he.1 (jfa.one hB33)
  have he := he.trans (hx33.sub (jsub_of rfl))
  have hb7 := hb7.mono hx33.1
  have hb15 := hb15.mono hx33.1
  have hb23 := hb23.mono hx33.1
  have hb31 := hb31.mono hx33.1
  have hA7 := hx33.2 _ _ hA7 (jnot_of rfl)
  have hA15 := hx33.2 _ _ hA15 (jnot_of rfl)
  have hA23 := hx33.2 _ _ hA23 (jnot_of rfl)
  have hA31 := hx33.2 _ _ hA31 (jnot_of rfl)
  refine J_aload_n dX4_init_36 rfl ?_
  refine J_bipush (v := 8) dX4_init_37 (by decide) ?_
  refine Jc_newax (atype := .int) (t := 13) (B := 8) (x := .inl (fun _ => 0)) jw_ac_int rfl (fun _ h => by cases h) (by decide) dX4_init_39 (by decide) (by decide) (by decide) (fun _ _ => rfl) (fun hN => jok_zI rfl (by decide) (by decide) (fun m h => by cases h <;> rfl) hN) (by decide) (by decide) hW (fun b39 V39 hn39 hb39 hk39 hW hx39 hA39 => ?_)
  have hz39 := he.1.none hn39
  have hkp := hkp.trans he.1 (jfa.new hk39)
  have he := he.trans (hx39.sub (jsub_of rfl))
  have hb7 := hb7.mono hx39.1
  have hb15 := hb15.mono hx39.1
  have hb23 := hb23.mono hx39.1
  have hb31 := hb31.mono hx39.1
  have hq := hk39 _ _ hq
  have hA7 := hk39 _ _ hA7
  have hA15 := hk39 _ _ hA15
  have hA23 := hk39 _ _ hA23
  have hA31 := hk39 _ _ hA31
  have hA39 : V39 b39 = some (.inl (13, 8, .inl (fun _ => 0))) := hA39
  refine Jc_putF jf_X4_25 jt_X4_8 rfl (fun _ h => by cases h; rfl) dX4_init_41 hq rfl rfl (Nat.le_of_ble_eq_true rfl) (fun _ h => by cases h) hW (fun V41 hq hW hx41 hB41 => ?_)
  have hq : V41 q = some (.inr (2, [.int 0, .int 0, .int 0, .null, .ref b7, .ref b15, .ref b23, .ref b31, .ref b39, .null, .int 0, .int 0, .int 0, .int 0])) := hq
  have hkp := hkp.trans he.1 (jfa.one hB41)
  have he := he.trans (hx41.sub (jsub_of rfl))
  have hb7 := hb7.mono hx41.1
  have hb15 := hb15.mono hx41.1
  have hb23 := hb23.mono hx41.1
  have hb31 := hb31.mono hx41.1
  have hb39 := hb39.mono hx41.1
  have hA7 := hx41.2 _ _ hA7 (jnot_of rfl)
  have hA15 := hx41.2 _ _ hA15 (jnot_of rfl)
  have hA23 := hx41.2 _ _ hA23 (jnot_of rfl)
  have hA31 := hx41.2 _ _ hA31 (jnot_of rfl)
  have hA39 := hx41.2 _ _ hA39 (jnot_of rfl)
  refine J_aload_n dX4_init_44 rfl ?_
  refine J_bipush (v := 7) dX4_init_45 (by decide) ?_
  refine Jc_newax (atype := .int) (t := 9) (B := 7) (x := .inl (fun _ => 0)) jw_ac_int rfl (fun _ h => by cases h) (by decide) dX4_init_47 (by decide) (by decide) (by decide) (fun _ _ => rfl) (fun hN => jok_zI rfl (by decide) (by decide) (fun m h => by cases h <;> rfl) hN) (by decide) (by decide) hW (fun b47 V47 hn47 hb47 hk47 hW hx47 hA47 => ?_)
  have hz47 := he.1.none hn47
  have hkp := hkp.trans he.1 (jfa.new hk47)
  have he := he.trans (hx47.sub (jsub_of rfl))
  have hb7 := hb7.mono hx47.1
  have hb15 := hb15.mono hx47.1
  have hb23 := hb23.mono hx47.1
  have hb31 := hb31.mono hx47.1
  have hb39 := hb39.mono hx47.1
  have hq := hk47 _ _ hq
  have hA7 := hk47 _ _ hA7
  have hA15 := hk47 _ _ hA15
  have hA23 := hk47 _ _ hA23
  have hA31 := hk47 _ _ hA31
  have hA39 := hk47 _ _ hA39
  have hA47 : V47 b47 = some (.inl (9, 7, .inl (fun _ => 0))) := hA47
  refine Jc_putF jf_X4_28 jt_X4_9 rfl (fun _ h => by cases h; rfl) dX4_init_49 hq rfl rfl (Nat.le_of_ble_eq_true rfl) (fun _ h => by cases h) hW (fun V49 hq hW hx49 hB49 => ?_)
  have hq : V49 q = some (.inr (2, [.int 0, .int 0, .int 0, .null, .ref b7, .ref b15, .ref b23, .ref b31, .ref b39, .ref b47, .int 0, .int 0, .int 0, .int 0])) := hq
  have hkp := hkp.trans he.1 (jfa.one hB49)
  have he := he.trans (hx49.sub (jsub_of rfl))
  have hb7 := hb7.mono hx49.1
  have hb15 := hb15.mono hx49.1
  have hb23 := hb23.mono hx49.1
  have hb31 := hb31.mono hx49.1
  have hb39 := hb39.mono hx49.1
  have hb47 := hb47.mono hx49.1
  have hA7 := hx49.2 _ _ hA7 (jnot_of rfl)
  have hA15 := hx49.2 _ _ hA15 (jnot_of rfl)
  have hA23 := hx49.2 _ _ hA23 (jnot_of rfl)
  have hA31 := hx49.2 _ _ hA31 (jnot_of rfl)
  have hA39 := hx49.2 _ _ hA39 (jnot_of rfl)
  have hA47 := hx49.2 _ _ hA47 (jnot_of rfl)
  refine J_aload_n dX4_init_52 rfl ?_
  refine J_iconst (v := 0) dX4_init_53 (by decide) ?_
  refine Jc_put jf_X4_31 jt_X4_10 dX4_init_54 hq rfl rfl (Nat.le_of_ble_eq_true rfl) (fun _ h => by cases h) hW (fun V54 hq hW hx54 hB54 => ?_)
  have hq : V54 q = some (.inr (2, [.int 0, .int 0, .int 0, .null, .ref b7, .ref b15, .ref b23, .ref b31, .ref b39, .ref b47, .int 0, .int 0, .int 0, .int 0])) := hq
  have hkp := hkp.trans he.1 (jfa.one hB54)
  have he := he.trans (hx54.sub (jsub_of rfl))
  have hb7 := hb7.mono hx54.1
  have hb15 := hb15.mono hx54.1
  have hb23 := hb23.mono hx54.1
  have hb31 := hb31.mono hx54.1
  have hb39 := hb39.mono hx54.1
  have hb47 := hb47.mono hx54.1
  have hA7 := hx54.2 _ _ hA7 (jnot_of rfl)
  have hA15 := hx54.2 _ _ hA15 (jnot_of rfl)
  have hA23 := hx54.2 _ _ hA23 (jnot_of rfl)
  have hA31 := hx54.2 _ _ hA31 (jnot_of rfl)
  have hA39 := hx54.2 _ _ hA39 (jnot_of rfl)
  have hA47 := hx54.2 _ _ hA47 (jnot_of rfl)
  refine J_aload_n dX4_init_57 rfl ?_
  refine J_iconst (v := 0) dX4_init_58 (by decide) ?_
  refine Jc_put jf_X4_35 jt_X4_11 dX4_init_59 hq rfl rfl (Nat.le_of_ble_eq_true rfl) (fun _ h => by cases h) hW (fun V59 hq hW hx59 hB59 => ?_)
  have hq : V59 q = some (.inr (2, [.int 0, .int 0, .int 0, .null, .ref b7, .ref b15, .ref b23, .ref b31, .ref b39, .ref b47, .int 0, .int 0, .int 0, .int 0])) := hq
  have hkp := hkp.trans he.1 (jfa.one hB59)
  have he := he.trans (hx59.sub (jsub_of rfl))
  have hb7 := hb7.mono hx59.1
  have hb15 := hb15.mono hx59.1
  have hb23 := hb23.mono hx59.1
  have hb31 := hb31.mono hx59.1
  have hb39 := hb39.mono hx59.1
  have hb47 := hb47.mono hx59.1
  have hA7 := hx59.2 _ _ hA7 (jnot_of rfl)
  have hA15 := hx59.2 _ _ hA15 (jnot_of rfl)
  have hA23 := hx59.2 _ _ hA23 (jnot_of rfl)
  have hA31 := hx59.2 _ _ hA31 (jnot_of rfl)
  have hA39 := hx59.2 _ _ hA39 (jnot_of rfl)
  have hA47 := hx59.2 _ _ hA47 (jnot_of rfl)
  refine J_aload_n dX4_init_62 rfl ?_
  refine J_iconst (v := 0) dX4_init_63 (by decide) ?_
  refine Jc_put jf_X4_38 jt_X4_12 dX4_init_64 hq rfl rfl (Nat.le_of_ble_eq_true rfl) (fun _ h => by cases h) hW (fun V64 hq hW hx64 hB64 => ?_)
  have hq : V64 q = some (.inr (2, [.int 0, .int 0, .int 0, .null, .ref b7, .ref b15, .ref b23, .ref b31, .ref b39, .ref b47, .int 0, .int 0, .int 0, .int 0])) := hq
  have hkp := hkp.trans he.1 (jfa.one hB64)
  have he := he.trans (hx64.sub (jsub_of rfl))
  have hb7 := hb7.mono hx64.1
  have hb15 := hb15.mono hx64.1
  have hb23 := hb23.mono hx64.1
  have hb31 := hb31.mono hx64.1
  have hb39 := hb39.mono hx64.1
  have hb47 := hb47.mono hx64.1
  have hA7 := hx64.2 _ _ hA7 (jnot_of rfl)
  have hA15 := hx64.2 _ _ hA15 (jnot_of rfl)
  have hA23 := hx64.2 _ _ hA23 (jnot_of rfl)
  have hA31 := hx64.2 _ _ hA31 (jnot_of rfl)
  have hA39 := hx64.2 _ _ hA39 (jnot_of rfl)
  have hA47 := hx64.2 _ _ hA47 (jnot_of rfl)
  refine J_aload_n dX4_init_67 rfl ?_
  refine J_iconst (v := 0) dX4_init_68 (by decide) ?_
  refine Jc_put jf_X4_41 jt_X4_13 dX4_init_69 hq rfl rfl (Nat.le_of_ble_eq_true rfl) (fun _ h => by cases h) hW (fun V69 hq hW hx69 hB69 => ?_)
  have hq : V69 q = some (.inr (2, [.int 0, .int 0, .int 0, .null, .ref b7, .ref b15, .ref b23, .ref b31, .ref b39, .ref b47, .int 0, .int 0, .int 0, .int 0])) := hq
  have hkp := hkp.trans he.1 (jfa.one hB69)
  have he := he.trans (hx69.sub (jsub_of rfl))
  have hb7 := hb7.mono hx69.1
  have hb15 := hb15.mono hx69.1
  have hb23 := hb23.mono hx69.1
  have hb31 := hb31.mono hx69.1
  have hb39 := hb39.mono hx69.1
  have hb47 := hb47.mono hx69.1
  have hA7 := hx69.2 _ _ hA7 (jnot_of rfl)
  have hA15 := hx69.2 _ _ hA15 (jnot_of rfl)
  have hA23 := hx69.2 _ _ hA23 (jnot_of rfl)
  have hA31 := hx69.2 _ _ hA31 (jnot_of rfl)
  have hA39 := hx69.2 _ _ hA39 (jnot_of rfl)
  have hA47 := hx69.2 _ _ hA47 (jnot_of rfl)
  refine J_aload_n dX4_init_72 rfl ?_
  refine J_iload_n dX4_init_73 rfl ?_
  refine Jc_putF jf_X4_45 jt_X4_0 rfl (fun _ h => by cases h; rfl) dX4_init_74 hq rfl rfl (Nat.le_of_ble_eq_true rfl) (fun _ h => by cases h) hW (fun V74 hq hW hx74 hB74 => ?_)
  have hq : V74 q = some (.inr (2, [.int x1, .int 0, .int 0, .null, .ref b7, .ref b15, .ref b23, .ref b31, .ref b39, .ref b47, .int 0, .int 0, .int 0, .int 0])) := hq
  have hkp := hkp.trans he.1 (jfa.one hB74)
  have he := he.trans (hx74.sub (jsub_of rfl))
  have hb7 := hb7.mono hx74.1
  have hb15 := hb15.mono hx74.1
  have hb23 := hb23.mono hx74.1
  have hb31 := hb31.mono hx74.1
  have hb39 := hb39.mono hx74.1
  have hb47 := hb47.mono hx74.1
  have hA7 := hx74.2 _ _ hA7 (jnot_of rfl)
  have hA15 := hx74.2 _ _ hA15 (jnot_of rfl)
  have hA23 := hx74.2 _ _ hA23 (jnot_of rfl)
  have hA31 := hx74.2 _ _ hA31 (jnot_of rfl)
  have hA39 := hx74.2 _ _ hA39 (jnot_of rfl)
  have hA47 := hx74.2 _ _ hA47 (jnot_of rfl)
  refine J_aload_n dX4_init_77 rfl ?_
  refine J_iload_n dX4_init_78 rfl ?_
  refine J_iconst (v := 3) dX4_init_79 (by decide) ?_
  refine J_icmp_ne (tgt := 88) dX4_init_80 (by decide) (fun c80 => ?_) (fun c80 => ?_)
  · refine J_bipush (v := 20) dX4_init_88 (by decide) ?_
    refine Jc_putF jf_X4_48 jt_X4_1 rfl (fun _ h => by cases h; rfl) dX4_init_90 hq rfl rfl (Nat.le_of_ble_eq_true rfl) (fun _ h => by cases h) hW (fun V90 hq hW hx90 hB90 => ?_)
    have hq : V90 q = some (.inr (2, [.int x1, _, .int 0, .null, .ref b7, .ref b15, .ref b23, .ref b31, .ref b39, .ref b47, .int 0, .int 0, .int 0, .int 0])) := hq
    have hkp := hkp.trans he.1 (jfa.one hB90)
    have he := he.trans (hx90.sub (jsub_of rfl))
    have hb7 := hb7.mono hx90.1
    have hb15 := hb15.mono hx90.1
    have hb23 := hb23.mono hx90.1
    have hb31 := hb31.mono hx90.1
    have hb39 := hb39.mono hx90.1
    have hb47 := hb47.mono hx90.1
    have hA7 := hx90.2 _ _ hA7 (jnot_of rfl)
    have hA15 := hx90.2 _ _ hA15 (jnot_of rfl)
    have hA23 := hx90.2 _ _ hA23 (jnot_of rfl)
    have hA31 := hx90.2 _ _ hA31 (jnot_of rfl)
    have hA39 := hx90.2 _ _ hA39 (jnot_of rfl)
    have hA47 := hx90.2 _ _ hA47 (jnot_of rfl)
    refine J_aload_n dX4_init_93 rfl ?_
    refine J_iconst (v := 2) dX4_init_94 (by decide) ?_
    refine J_aload_n dX4_init_95 rfl ?_
    refine J_get jf_X4_48 dX4_init_96 hq rfl ?_
    refine J_imul dX4_init_99 ?_
    refine J_iconst (v := 1) dX4_init_100 (by decide) ?_
    refine J_iadd dX4_init_101 ?_
    refine Jc_putF jf_X4_51 jt_X4_2 rfl (fun _ h => by cases h; rfl) dX4_init_102 hq rfl rfl (Nat.le_of_ble_eq_true rfl) (fun _ h => by cases h) hW (fun V102 hq hW hx102 hB102 => ?_)
    have hq : V102 q = some (.inr (2, [.int x1, _, _, .null, .ref b7, .ref b15, .ref b23, .ref b31, .ref b39, .ref b47, .int 0, .int 0, .int 0, .int 0])) := hq
    have hkp := hkp.trans he.1 (jfa.one hB102)
    have he := he.trans (hx102.sub (jsub_of rfl))
    have hb7 := hb7.mono hx102.1
    have hb15 := hb15.mono hx102.1
    have hb23 := hb23.mono hx102.1
    have hb31 := hb31.mono hx102.1
    have hb39 := hb39.mono hx102.1
    have hb47 := hb47.mono hx102.1
    have hA7 := hx102.2 _ _ hA7 (jnot_of rfl)
    have hA15 := hx102.2 _ _ hA15 (jnot_of rfl)
    have hA23 := hx102.2 _ _ hA23 (jnot_of rfl)
    have hA31 := hx102.2 _ _ hA31 (jnot_of rfl)
    have hA39 := hx102.2 _ _ hA39 (jnot_of rfl)
    have hA47 := hx102.2 _ _ hA47 (jnot_of rfl)
    refine J_aload_n dX4_init_105 rfl ?_
    refine J_iload_n dX4_init_106 rfl ?_
    refine J_iconst (v := 3) dX4_init_107 (by decide) ?_
    refine J_icmp_ne (tgt := 128) dX4_init_108 (by decide) (fun c108 => ?_) (fun c108 => absurd c108 c80)
    refine J_aload_n dX4_init_128 rfl ?_
    refine J_get jf_X4_51 dX4_init_129 hq rfl ?_
    refine J_aload_n dX4_init_132 rfl ?_
    refine J_get jf_X4_51 dX4_init_133 hq rfl ?_
    refine J_imul dX4_init_136 ?_
    refine Jc_newax (atype := .boolean) (t := 2) (B := 15625) (x := .inl (fun _ => 0)) jw_ac_boolean rfl (fun _ h => by cases h) (by decide) dX4_init_137 (by decide) (by decide) (by decide) (fun _ _ => rfl) (fun hN => jok_zI rfl (by decide) (by decide) (fun m h => by cases h <;> rfl) hN) (by decide) (by decide) hW (fun b137 V137 hn137 hb137 hk137 hW hx137 hA137 => ?_)
    have hz137 := he.1.none hn137
    have hkp := hkp.trans he.1 (jfa.new hk137)
    have he := he.trans (hx137.sub (jsub_of rfl))
    have hb7 := hb7.mono hx137.1
    have hb15 := hb15.mono hx137.1
    have hb23 := hb23.mono hx137.1
    have hb31 := hb31.mono hx137.1
    have hb39 := hb39.mono hx137.1
    have hb47 := hb47.mono hx137.1
    have hq := hk137 _ _ hq
    have hA7 := hk137 _ _ hA7
    have hA15 := hk137 _ _ hA15
    have hA23 := hk137 _ _ hA23
    have hA31 := hk137 _ _ hA31
    have hA39 := hk137 _ _ hA39
    have hA47 := hk137 _ _ hA47
    refine Jc_putF jf_X4_54 jt_X4_3 rfl (fun _ h => by cases h; rfl) dX4_init_139 hq rfl rfl (Nat.le_of_ble_eq_true rfl) (fun _ h => by cases h) hW (fun V139 hq hW hx139 hB139 => ?_)
    have hq : V139 q = some (.inr (2, [.int x1, _, _, .ref b137, .ref b7, .ref b15, .ref b23, .ref b31, .ref b39, .ref b47, .int 0, .int 0, .int 0, .int 0])) := hq
    have hkp := hkp.trans he.1 (jfa.one hB139)
    have he := he.trans (hx139.sub (jsub_of rfl))
    have hb7 := hb7.mono hx139.1
    have hb15 := hb15.mono hx139.1
    have hb23 := hb23.mono hx139.1
    have hb31 := hb31.mono hx139.1
    have hb39 := hb39.mono hx139.1
    have hb47 := hb47.mono hx139.1
    have hb137 := hb137.mono hx139.1
    have hA7 := hx139.2 _ _ hA7 (jnot_of rfl)
    have hA15 := hx139.2 _ _ hA15 (jnot_of rfl)
    have hA23 := hx139.2 _ _ hA23 (jnot_of rfl)
    have hA31 := hx139.2 _ _ hA31 (jnot_of rfl)
    have hA39 := hx139.2 _ _ hA39 (jnot_of rfl)
    have hA47 := hx139.2 _ _ hA47 (jnot_of rfl)
    have hA137 := hx139.2 _ _ hA137 (jnot_of rfl)
    have hW := hW.fin hq (jokO_cons ⟨_, rfl, (j_rng _).1, (j_rng _).2⟩ (jokO_cons ⟨_, rfl, by first | decide | assumption | omega, by first | decide | assumption | omega⟩ (jokO_cons ⟨_, rfl, (j_rng _).1, (j_rng _).2⟩ (jokO_cons ⟨_, rfl, hb137⟩ (jokO_cons ⟨_, rfl, hb7⟩ (jokO_cons ⟨_, rfl, hb15⟩ (jokO_cons ⟨_, rfl, hb23⟩ (jokO_cons ⟨_, rfl, hb31⟩ (jokO_cons ⟨_, rfl, hb39⟩ (jokO_cons ⟨_, rfl, hb47⟩ (jokO_cons ⟨_, rfl, by first | decide | assumption | omega, by first | decide | assumption | omega⟩ (jokO_cons ⟨_, rfl, by first | decide | assumption | omega, by first | decide | assumption | omega⟩ (jokO_cons ⟨_, rfl, (j_rng _).1, (j_rng _).2⟩ (jokO_cons ⟨_, rfl, by first | decide | assumption | omega, by first | decide | assumption | omega⟩ (jokO_nil)))))))))))))))
    have hq0 : jis _ (.inr 2) q := ⟨_, hq, rfl⟩
    obtain ⟨fsq, hOq, hFq3, hFq4, hFq5, hFq6, hFq7, hFq8, hFq9⟩ : ∃ fs : List Value, V139 q = some (.inr (2, fs)) ∧ fs[3]? = some (.ref b137) ∧ fs[4]? = some (.ref b7) ∧ fs[5]? = some (.ref b15) ∧ fs[6]? = some (.ref b23) ∧ fs[7]? = some (.ref b31) ∧ fs[8]? = some (.ref b39) ∧ fs[9]? = some (.ref b47) := ⟨_, hq, rfl, rfl, rfl, rfl, rfl, rfl, rfl⟩
    have hKq : jokO V139 (jFs 2) fsq := hW _ _ (fun h => h) hOq
    have hn3 : ¬ x1.toInt = 3 := fun z => c80 (jI_inj.mp (show x1.toInt = (3 : Int32).toInt from z))
    have hjR : jRg x1.toInt = 20 := if_neg hn3
    have hjL : jLg x1.toInt = 1681 := if_neg hn3
    refine w_X4_init_t d V139 q x1 b7 b39 b47 (fun _ => 0) (fun _ => 0) (fun _ => 0) _ (by omega) hW hq0 ⟨_, hOq, hFq4⟩ ⟨_, hOq, hFq8⟩ ⟨_, hOq, hFq9⟩ hA7 hA39 hA47 (fun r V h => ?_)
    obtain ⟨⟨hW2, hx2, hr⟩, ⟨WC2, FO2, RN2, w1, w2, w3, w4, w5, w6, w7⟩, hfp⟩ := h
    refine ⟨hr, hW2, he.freshL (fun a ha => ?_) hfp, hq0.mono hx2.1, jtyn.mk hz137 hz7 hz15 hz23 hz31 hz39 hz47 hq rfl rfl rfl rfl rfl rfl rfl rfl rfl rfl rfl rfl rfl (by rw [hjR]; rfl) (by rw [hjR]; rfl) (by rw [hjL]; rfl) hA137 hA7 hA15 hA23 hA31 hA39 hA47 hkp hfp w1 w2 w3 w4 w5 w6 w7⟩
    simp only [List.mem_cons, List.not_mem_nil, or_false] at ha
    rcases ha with z | z | z
    · rw [z]; exact hz7
    · rw [z]; exact hz39
    · rw [z]; exact hz47
  · refine J_bipush (v := 12) dX4_init_83 (by decide) ?_
    refine J_goto (tgt := 90) dX4_init_85 (by decide) ?_
    refine Jc_putF jf_X4_48 jt_X4_1 rfl (fun _ h => by cases h; rfl) dX4_init_90 hq rfl rfl (Nat.le_of_ble_eq_true rfl) (fun _ h => by cases h) hW (fun V90 hq hW hx90 hB90 => ?_)
    have hq : V90 q = some (.inr (2, [.int x1, _, .int 0, .null, .ref b7, .ref b15, .ref b23, .ref b31, .ref b39, .ref b47, .int 0, .int 0, .int 0, .int 0])) := hq
    have hkp := hkp.trans he.1 (jfa.one hB90)
    have he := he.trans (hx90.sub (jsub_of rfl))
    have hb7 := hb7.mono hx90.1
    have hb15 := hb15.mono hx90.1
    have hb23 := hb23.mono hx90.1
    have hb31 := hb31.mono hx90.1
    have hb39 := hb39.mono hx90.1
    have hb47 := hb47.mono hx90.1
    have hA7 := hx90.2 _ _ hA7 (jnot_of rfl)
    have hA15 := hx90.2 _ _ hA15 (jnot_of rfl)
    have hA23 := hx90.2 _ _ hA23 (jnot_of rfl)
    have hA31 := hx90.2 _ _ hA31 (jnot_of rfl)
    have hA39 := hx90.2 _ _ hA39 (jnot_of rfl)
    have hA47 := hx90.2 _ _ hA47 (jnot_of rfl)
    refine J_aload_n dX4_init_93 rfl ?_
    refine J_iconst (v := 2) dX4_init_94 (by decide) ?_
    refine J_aload_n dX4_init_95 rfl ?_
    refine J_get jf_X4_48 dX4_init_96 hq rfl ?_
    refine J_imul dX4_init_99 ?_
    refine J_iconst (v := 1) dX4_init_100 (by decide) ?_
    refine J_iadd dX4_init_101 ?_
    refine Jc_putF jf_X4_51 jt_X4_2 rfl (fun _ h => by cases h; rfl) dX4_init_102 hq rfl rfl (Nat.le_of_ble_eq_true rfl) (fun _ h => by cases h) hW (fun V102 hq hW hx102 hB102 => ?_)
    have hq : V102 q = some (.inr (2, [.int x1, _, _, .null, .ref b7, .ref b15, .ref b23, .ref b31, .ref b39, .ref b47, .int 0, .int 0, .int 0, .int 0])) := hq
    have hkp := hkp.trans he.1 (jfa.one hB102)
    have he := he.trans (hx102.sub (jsub_of rfl))
    have hb7 := hb7.mono hx102.1
    have hb15 := hb15.mono hx102.1
    have hb23 := hb23.mono hx102.1
    have hb31 := hb31.mono hx102.1
    have hb39 := hb39.mono hx102.1
    have hb47 := hb47.mono hx102.1
    have hA7 := hx102.2 _ _ hA7 (jnot_of rfl)
    have hA15 := hx102.2 _ _ hA15 (jnot_of rfl)
    have hA23 := hx102.2 _ _ hA23 (jnot_of rfl)
    have hA31 := hx102.2 _ _ hA31 (jnot_of rfl)
    have hA39 := hx102.2 _ _ hA39 (jnot_of rfl)
    have hA47 := hx102.2 _ _ hA47 (jnot_of rfl)
    refine J_aload_n dX4_init_105 rfl ?_
    refine J_iload_n dX4_init_106 rfl ?_
    refine J_iconst (v := 3) dX4_init_107 (by decide) ?_
    refine J_icmp_ne (tgt := 128) dX4_init_108 (by decide) (fun c108 => absurd c108 (fun z => z c80)) (fun c108 => ?_)
    refine J_aload_n dX4_init_111 rfl ?_
    refine J_get jf_X4_51 dX4_init_112 hq rfl ?_
    refine J_aload_n dX4_init_115 rfl ?_
    refine J_get jf_X4_51 dX4_init_116 hq rfl ?_
    refine J_imul dX4_init_119 ?_
    refine J_aload_n dX4_init_120 rfl ?_
    refine J_get jf_X4_51 dX4_init_121 hq rfl ?_
    refine J_imul dX4_init_124 ?_
    refine J_goto (tgt := 137) dX4_init_125 (by decide) ?_
    refine Jc_newax (atype := .boolean) (t := 2) (B := 15625) (x := .inl (fun _ => 0)) jw_ac_boolean rfl (fun _ h => by cases h) (by decide) dX4_init_137 (by decide) (by decide) (by decide) (fun _ _ => rfl) (fun hN => jok_zI rfl (by decide) (by decide) (fun m h => by cases h <;> rfl) hN) (by decide) (by decide) hW (fun b137 V137 hn137 hb137 hk137 hW hx137 hA137 => ?_)
    have hz137 := he.1.none hn137
    have hkp := hkp.trans he.1 (jfa.new hk137)
    have he := he.trans (hx137.sub (jsub_of rfl))
    have hb7 := hb7.mono hx137.1
    have hb15 := hb15.mono hx137.1
    have hb23 := hb23.mono hx137.1
    have hb31 := hb31.mono hx137.1
    have hb39 := hb39.mono hx137.1
    have hb47 := hb47.mono hx137.1
    have hq := hk137 _ _ hq
    have hA7 := hk137 _ _ hA7
    have hA15 := hk137 _ _ hA15
    have hA23 := hk137 _ _ hA23
    have hA31 := hk137 _ _ hA31
    have hA39 := hk137 _ _ hA39
    have hA47 := hk137 _ _ hA47
    refine Jc_putF jf_X4_54 jt_X4_3 rfl (fun _ h => by cases h; rfl) dX4_init_139 hq rfl rfl (Nat.le_of_ble_eq_true rfl) (fun _ h => by cases h) hW (fun V139 hq hW hx139 hB139 => ?_)
    have hq : V139 q = some (.inr (2, [.int x1, _, _, .ref b137, .ref b7, .ref b15, .ref b23, .ref b31, .ref b39, .ref b47, .int 0, .int 0, .int 0, .int 0])) := hq
    have hkp := hkp.trans he.1 (jfa.one hB139)
    have he := he.trans (hx139.sub (jsub_of rfl))
    have hb7 := hb7.mono hx139.1
    have hb15 := hb15.mono hx139.1
    have hb23 := hb23.mono hx139.1
    have hb31 := hb31.mono hx139.1
    have hb39 := hb39.mono hx139.1
    have hb47 := hb47.mono hx139.1
    have hb137 := hb137.mono hx139.1
    have hA7 := hx139.2 _ _ hA7 (jnot_of rfl)
    have hA15 := hx139.2 _ _ hA15 (jnot_of rfl)
    have hA23 := hx139.2 _ _ hA23 (jnot_of rfl)
    have hA31 := hx139.2 _ _ hA31 (jnot_of rfl)
    have hA39 := hx139.2 _ _ hA39 (jnot_of rfl)
    have hA47 := hx139.2 _ _ hA47 (jnot_of rfl)
    have hA137 := hx139.2 _ _ hA137 (jnot_of rfl)
    have hW := hW.fin hq (jokO_cons ⟨_, rfl, (j_rng _).1, (j_rng _).2⟩ (jokO_cons ⟨_, rfl, by first | decide | assumption | omega, by first | decide | assumption | omega⟩ (jokO_cons ⟨_, rfl, (j_rng _).1, (j_rng _).2⟩ (jokO_cons ⟨_, rfl, hb137⟩ (jokO_cons ⟨_, rfl, hb7⟩ (jokO_cons ⟨_, rfl, hb15⟩ (jokO_cons ⟨_, rfl, hb23⟩ (jokO_cons ⟨_, rfl, hb31⟩ (jokO_cons ⟨_, rfl, hb39⟩ (jokO_cons ⟨_, rfl, hb47⟩ (jokO_cons ⟨_, rfl, by first | decide | assumption | omega, by first | decide | assumption | omega⟩ (jokO_cons ⟨_, rfl, by first | decide | assumption | omega, by first | decide | assumption | omega⟩ (jokO_cons ⟨_, rfl, (j_rng _).1, (j_rng _).2⟩ (jokO_cons ⟨_, rfl, by first | decide | assumption | omega, by first | decide | assumption | omega⟩ (jokO_nil)))))))))))))))
    have hq0 : jis _ (.inr 2) q := ⟨_, hq, rfl⟩
    obtain ⟨fsq, hOq, hFq3, hFq4, hFq5, hFq6, hFq7, hFq8, hFq9⟩ : ∃ fs : List Value, V139 q = some (.inr (2, fs)) ∧ fs[3]? = some (.ref b137) ∧ fs[4]? = some (.ref b7) ∧ fs[5]? = some (.ref b15) ∧ fs[6]? = some (.ref b23) ∧ fs[7]? = some (.ref b31) ∧ fs[8]? = some (.ref b39) ∧ fs[9]? = some (.ref b47) := ⟨_, hq, rfl, rfl, rfl, rfl, rfl, rfl, rfl⟩
    have hKq : jokO V139 (jFs 2) fsq := hW _ _ (fun h => h) hOq
    have hn3 : x1.toInt = 3 := by rw [c80]; rfl
    have hjR : jRg x1.toInt = 12 := if_pos hn3
    have hjL : jLg x1.toInt = 15625 := if_pos hn3
    refine w_X4_init_t d V139 q x1 b7 b39 b47 (fun _ => 0) (fun _ => 0) (fun _ => 0) _ (by omega) hW hq0 ⟨_, hOq, hFq4⟩ ⟨_, hOq, hFq8⟩ ⟨_, hOq, hFq9⟩ hA7 hA39 hA47 (fun r V h => ?_)
    obtain ⟨⟨hW2, hx2, hr⟩, ⟨WC2, FO2, RN2, w1, w2, w3, w4, w5, w6, w7⟩, hfp⟩ := h
    refine ⟨hr, hW2, he.freshL (fun a ha => ?_) hfp, hq0.mono hx2.1, jtyn.mk hz137 hz7 hz15 hz23 hz31 hz39 hz47 hq rfl rfl rfl rfl rfl rfl rfl rfl rfl rfl rfl rfl rfl (by rw [hjR]; rfl) (by rw [hjR]; rfl) (by rw [hjL]; rfl) hA137 hA7 hA15 hA23 hA31 hA39 hA47 hkp hfp w1 w2 w3 w4 w5 w6 w7⟩
    simp only [List.mem_cons, List.not_mem_nil, or_false] at ha
    rcases ha with z | z | z
    · rw [z]; exact hz7
    · rw [z]; exact hz39
    · rw [z]; exact hz47
set_option maxRecDepth 100000 in
set_option maxHeartbeats 4000000 in
theorem w_X6_tallyFor_newz {tS : jTS} (d : Nat) (V0 : jH) (a0 : Nat) (x1 : Int32) (x2 : Int32) (x3 : Int32) (fs : List Value) (tl : Nat) (f : Nat → Option Nat) (j : Nat) (hd : 2 ≤ d) (hW : WT V0) (ha0 : jis V0 (.inr 4) a0) (hx : V0 a0 = some (.inr (4, fs))) (h5 : fs[5]? = some (.ref tl)) (htl : V0 tl = some (.inl (5, 4, .inr (.inr (.inr (.inr f)))))) (hg : x1 = nI j) (hj : j < 4) (hf : f j = none) (hb1 : ¬ x1 < 0) (hb2 : ¬ Int32.ofNat 4 ≤ x1) (hb3 : ¬ x2 < x3) (hb4 : x2 ≤ 20) : jTot tS mX6_tallyFor d [.ref a0, .int x1, .int x2, .int x3] V0 8 15738 (fun r V => ∃ t : Nat, r = some (.ref t) ∧ WT V ∧ jeff [.inl 5, .inr 2] V0 V ∧ jis V (.inr 2) t ∧ V tl = some (.inl (5, 4, .inr (.inr (.inr (.inr (va_up f j (some t))))))) ∧ jtm V0 V tl t (j : Int)) := by
  refine jTot.of_J [some (.ref a0), some (.int x1), some (.int x2), some (.int x3), none] moX6_tallyFor (Nat.le_of_ble_eq_true rfl) rfl ?_
  have he : jeff [.inl 5, .inr 2] V0 V0 := jeff.refl _ _
  have hKx : jokO V0 (jFs 4) fs := hW _ _ id hx
  have htlk : jis V0 (.inl 5) tl := ⟨_, htl, rfl⟩
  have hN4 : (4 : Nat) < 2 ^ 31 := by decide
  have hvt : ∀ (j b : Nat), j < 4 → f j = some b → jis V0 (.inr 2) b := by
    obtain ⟨n9, f9, h91, h92, h93, h94⟩ := WT_arrR hW id rfl htlk
    cases htl.symm.trans h91
    exact h94
  have htl0 := htl
  have hgj : x1.toInt = (j : Int) := by rw [hg]; exact nI_toInt (by omega)
  have hg0 : 0 ≤ x1.toInt := by omega
  have hg3 : x1.toInt ≤ 3 := by omega
  refine J_iload_n dX6_tallyFor_0 rfl ?_
  refine J_if_lt (tgt := 24) dX6_tallyFor_1 (by decide) (fun c1 => ?_) (fun c1 => ?_)
  · exact False.elim (by first | exact hb1 c1 | exact hb2 c10 | exact hb3 c15 | exact c21 hb4)
  · refine J_iload_n dX6_tallyFor_4 rfl ?_
    refine J_aload_n dX6_tallyFor_5 rfl ?_
    refine J_get jf_X6_35 dX6_tallyFor_6 hx h5 ?_
    refine J_alen (v := Int32.ofNat 4) dX6_tallyFor_9 htl rfl rfl ?_
    refine J_icmp_ge (tgt := 24) dX6_tallyFor_10 (by decide) (fun c10 => ?_) (fun c10 => ?_)
    · exact False.elim (by first | exact hb1 c1 | exact hb2 c10 | exact hb3 c15 | exact c21 hb4)
    · refine J_iload_n dX6_tallyFor_13 rfl ?_
      refine J_iload_n dX6_tallyFor_14 rfl ?_
      refine J_icmp_lt (tgt := 24) dX6_tallyFor_15 (by decide) (fun c15 => ?_) (fun c15 => ?_)
      · exact False.elim (by first | exact hb1 c1 | exact hb2 c10 | exact hb3 c15 | exact c21 hb4)
      · refine J_iload_n dX6_tallyFor_18 rfl ?_
        refine J_bipush (v := 20) dX6_tallyFor_19 (by decide) ?_
        refine J_icmp_le (tgt := 26) dX6_tallyFor_21 (by decide) (fun c21 => ?_) (fun c21 => ?_)
        · refine J_aload_n dX6_tallyFor_26 rfl ?_
          refine J_get jf_X6_35 dX6_tallyFor_27 hx h5 ?_
          refine J_iload_n dX6_tallyFor_30 rfl ?_
          have hin : vp_in x1 4 := by exact vp_in_g (by assumption) (by assumption) (by assumption)
          have hcl : x1.toNatClampNeg = j := by rw [hg]; exact nI_clamp (by omega)
          refine J_aald dX6_tallyFor_31 (t := 5) rfl htl hin ?_
          rw [hcl, hf, show va_rf none = Value.null from rfl]
          · refine J_astoreN dX6_tallyFor_32 rfl (by decide) ?_
            refine J_aloadN dX6_tallyFor_34 rfl ?_
            refine J_ifnonnullN dX6_tallyFor_36 ?_
            refine Jc_new jn_X6_33 dX6_tallyFor_39 (by decide) (by decide) hW (fun q39 V39 hn39 hQ39 hk39 hW hx39 => ?_)
            have hz39 := he.1.none hn39
            have he := he.trans (hx39.sub (jsub_of rfl))
            have ha0 := ha0.mono hx39.1
            have htlk := htlk.mono hx39.1
            have hx := hk39 _ _ hx
            have hKx := hKx.mono hx39.1
            have htl := hk39 _ _ htl
            refine J_dup dX6_tallyFor_42 rfl ?_
            refine J_iload_n dX6_tallyFor_43 rfl ?_
            refine J_callI1 moX4_init rfl rfl jw_ml_X6_256 jw_im_X4_init dX6_tallyFor_44 (w_X4_init_z (d - 1) _ _ _ (by omega) hW hQ39  hg0 hg3) (by omega) (by decide) (by decide) (Nat.le_of_ble_eq_true rfl) (fun r44 V44 h44 => ?_)
            obtain ⟨rfl, hW, hx44, hj44, hxc44⟩ := h44
            have he := he.trans (hx44.sub (jsub_of rfl))
            have ha0 := ha0.mono hx44.1
            have htlk := htlk.mono hx44.1
            have hx := hx44.2 _ _ hx (jnot_of rfl)
            have hKx := hKx.mono hx44.1
            have htl := hx44.2 _ _ htl (jnot_of rfl)
            refine J_astore dX6_tallyFor_47 rfl (by decide) ?_
            refine J_aload_n dX6_tallyFor_49 rfl ?_
            refine J_get jf_X6_35 dX6_tallyFor_50 hx h5 ?_
            refine J_iload_n dX6_tallyFor_53 rfl ?_
            refine J_aload dX6_tallyFor_54 rfl ?_
            refine Jw_aast hW id dX6_tallyFor_56 rfl rfl htl rfl hj44 (by first | exact vp_in_g (by assumption) (by assumption) (by assumption) | exact vp_in_g1 (by assumption) (by assumption) (by assumption) | exact vp_in_g2 (by assumption) (by assumption) (by assumption) | exact vp_in_g3 (by assumption) (by assumption) (by assumption) | exact vp_in_n (by omega) (by omega)) (fun V56 hW hx56 hy56 hw56 => ?_)
            have he := he.trans (hx56.sub (jsub_of rfl))
            have ha0 := ha0.mono hx56.1
            have htlk := htlk.mono hx56.1
            have hj44 := hj44.mono hx56.1
            have hx := hx56.2 _ _ hx (jnot_of rfl)
            have hKx := hKx.mono hx56.1
            refine J_aload dX6_tallyFor_57 rfl ?_
            rw [hgj] at hxc44
            have hjm := jtyn.up hxc44 hk39 hn39 htl0 hy56
            exact J_ret (r := some (.ref _)) dX6_tallyFor_59 ⟨rfl, _, rfl, Or.inl ⟨_, rfl⟩⟩ (⟨_, rfl, hW, he, hj44, hcl ▸ hw56, hjm⟩)
        · exact False.elim (by first | exact hb1 c1 | exact hb2 c10 | exact hb3 c15 | exact c21 hb4)
set_option maxRecDepth 100000 in
set_option maxHeartbeats 8000000 in
theorem w_X6_walks_zbad {tS : jTS} (d : Nat) (V0 : jH) (a0 : Nat) (x1 : Int32) (x2 : Int32) (hd : 28 ≤ d) (hW : WT V0) (ha0 : jis V0 (.inr 4) a0) (hbad : x1 < 0 ∨ Int32.ofNat 4 ≤ x1 ∨ x2 < 0 ∨ ¬ x2 ≤ 20) : jTot tS mX6_walks d [.ref a0, .int x1, .int x2] V0 0 0 (fun r V => (fun r _ => ∃ y : Int32, r = some (.int y) ∧ ((-2147483648) ≤ y.toInt) ∧ (y.toInt ≤ 2147483647) ∧ (y.toInt = -2)) r V ∧ V = V0) := by
  refine jTot.of_J [some (.ref a0), some (.int x1), some (.int x2), none] moX6_walks (Nat.le_of_ble_eq_true rfl) rfl ?_
  have hrx1 := j_rng x1
  have hrx2 := j_rng x2
  have he : jeff [] V0 V0 := jeff.refl _ _
  refine J_aload_n dX6_walks_0 rfl ?_
  refine J_iload_n dX6_walks_1 rfl ?_
  refine J_iload_n dX6_walks_2 rfl ?_
  refine Jz_iconst 0 dX6_walks_3 (by decide) (fun y3 he3 => ?_)
  refine Jw_callV3 (q9 := (RX6, TX6, 7)) moX6_tallyFor jw_ml_X6_149 jw_im_X6_tallyFor jw_se_X6_tallyFor ha0 rfl rfl dX6_walks_4 (w_X6_tallyFor_bad (d - 1) _ _ _ _ _ (by omega) hW ha0 (by rw [(jI_inj.mp (he3.eq.trans rfl) : y3 = 0)]; exact hbad)) (by omega) (Nat.zero_le _) (Nat.zero_le _) (Nat.le_of_ble_eq_true rfl) (fun r4 V4 h4 => ?_)
  obtain ⟨rfl, hE4⟩ := h4
  have hE4 := hE4.symm
  subst hE4
  · refine J_astore_nN dX6_walks_7 rfl (by decide) ?_
    refine J_aload_nN dX6_walks_8 rfl ?_
    refine J_ifnonnullN dX6_walks_9 ?_
    refine Jz_bipush (-2) dX6_walks_12 (by decide) (fun y12 he12 => ?_)
    exact J_ret (r := some (.int _)) dX6_walks_14 ⟨rfl, _, rfl, rfl⟩ (⟨⟨_, rfl, (j_rng _).1, (j_rng _).2, (by (try simp only [he12.eq, true_and, and_true]) <;> omega)⟩, rfl⟩)
set_option maxRecDepth 100000 in
set_option maxHeartbeats 8000000 in
theorem w_X6_walks_zold {tS : jTS} (d : Nat) (V0 : jH) (a0 : Nat) (x1 : Int32) (x2 : Int32) (fs : List Value) (tl : Nat) (f : Nat → Option Nat) (j : Nat) (A : Nat → jad) (t : Nat) (hd : 28 ≤ d) (hW : WT V0) (ha0 : jis V0 (.inr 4) a0) (hx : V0 a0 = some (.inr (4, fs))) (h5 : fs[5]? = some (.ref tl)) (htl : V0 tl = some (.inl (5, 4, .inr (.inr (.inr (.inr f)))))) (hg : x1 = nI j) (hj : j < 4) (hb1 : ¬ x1 < 0) (hb2 : ¬ Int32.ofNat 4 ≤ x1) (hb3 : ¬ x2 < 0) (hb4 : x2 ≤ 20) (hf : f j = some t) (hty4 : ∀ j : Nat, j < 4 → f j = none ∨ ∃ t : Nat, f j = some t ∧ jty V0 t (A j) (j : Int)) (hA5 : ∀ i j : Nat, i < 4 → j < 4 → i ≠ j → f i ≠ none → f j ≠ none → jsp (A i) (A j)) (hp0 : 0 ≤ x2.toInt) (hp1 : x2.toInt ≤ 20) : jTot tS mX6_walks d [.ref a0, .int x1, .int x2] V0 0 0 (fun r V => (jPost [.inr 2, .inl 1, .inl 2, .inl 8, .inl 37, .inl 38] V0 (fun r _ => ∃ y : Int32, r = some (.int y) ∧ ((-2147483648) ≤ y.toInt) ∧ (y.toInt ≤ 2147483647) ∧ ((jTT (j : Int) x2.toInt.toNat jL0 ≤ 600000 ∧ y.toInt = ((jrq (j : Int) x2.toInt.toNat).1 : Int)) ∨ (600000 < jTT (j : Int) x2.toInt.toNat jL0 ∧ y.toInt = -5)))) r V ∧ jTL V a0) := by
  refine jTot.of_J [some (.ref a0), some (.int x1), some (.int x2), none] moX6_walks (Nat.le_of_ble_eq_true rfl) rfl ?_
  have hrx1 := j_rng x1
  have hrx2 := j_rng x2
  have he : jeff [.inr 2, .inl 1, .inl 2, .inl 8, .inl 37, .inl 38] V0 V0 := jeff.refl _ _
  have hb30 := hb3
  have hKx : jokO V0 (jFs 4) fs := hW _ _ id hx
  have htlk : jis V0 (.inl 5) tl := ⟨_, htl, rfl⟩
  have hN4 : (4 : Nat) < 2 ^ 31 := by decide
  have hvt : ∀ (j b : Nat), j < 4 → f j = some b → jis V0 (.inr 2) b := by
    obtain ⟨n9, f9, h91, h92, h93, h94⟩ := WT_arrR hW id rfl htlk
    cases htl.symm.trans h91
    exact h94
  have hjj : ∀ j2 : Nat, x1 = nI j2 → j2 < 4 → j2 = j := fun j2 h1 h2 => by
    have h3 : x1.toNatClampNeg = j2 := by rw [h1]; exact nI_clamp (by omega)
    have h4 : x1.toNatClampNeg = j := by rw [hg]; exact nI_clamp (by omega)
    omega
  clear hN4
  have hx0 := hx
  have h50 := h5
  have htl0 := htl
  have hgj : x1.toInt = (j : Int) := by rw [hg]; exact nI_toInt (by omega)
  have ho : ∀ j2, x1 = nI j2 → j2 < 4 → ∃ t2, f j2 = some t2 := fun j2 h1 h2 => ⟨t, by rw [hjj j2 h1 h2]; exact hf⟩
  have hty : jty V0 t (A j) (j : Int) := (hty4 j hj).elim (fun q => by rw [q] at hf; cases hf) (fun ⟨t2, q1, q2⟩ => by cases q1.symm.trans hf; exact q2)
  obtain ⟨gv, R, sd, cd, tg, sp, ln, TK, WC, SQ, RC, BC, ⟨e1, e2, e3, e4⟩, ⟨⟨ts, hT, hF0⟩, i1, i2, i3, i4, i5⟩, ⟨r3, r4, r5, r6, r7⟩, ⟨d3, d4, d5, d6, d7⟩, htk, htal⟩ := id hty
  rw [← e1] at e2 e3 e4 htk htal
  have hF1 := i1.get hT
  have hF2 := i2.get hT
  have hF11 := i3.get hT
  have hF12 := i4.get hT
  have hF13 := i5.get hT
  have hF3 := r3.get hT
  have hF4 := r4.get hT
  have hF5 := r5.get hT
  have hF6 := r6.get hT
  have hF7 := r7.get hT
  have hbt : jis V0 (.inr 2) t := ⟨_, hT, rfl⟩
  have hKt : jokO V0 (jFs 2) ts := hW _ _ id hT
  have hbq3 : jis V0 (.inl 2) _ := ⟨_, d3, rfl⟩
  have hbq4 : jis V0 (.inl 8) _ := ⟨_, d4, rfl⟩
  have hbq5 : jis V0 (.inl 1) _ := ⟨_, d5, rfl⟩
  have hbq6 : jis V0 (.inl 37) _ := ⟨_, d6, rfl⟩
  have hbq7 : jis V0 (.inl 38) _ := ⟨_, d7, rfl⟩
  have hgq0 : 0 ≤ gv.toInt := by omega
  have hgq3 : gv.toInt ≤ 3 := by omega
  refine J_aload_n dX6_walks_0 rfl ?_
  refine J_iload_n dX6_walks_1 rfl ?_
  refine J_iload_n dX6_walks_2 rfl ?_
  refine Jz_iconst 0 dX6_walks_3 (by decide) (fun y3 he3 => ?_)
  refine Jw_callV3 (q9 := (RX6, TX6, 7)) moX6_tallyFor jw_ml_X6_149 jw_im_X6_tallyFor jw_se_X6_tallyFor ha0 rfl rfl dX6_walks_4 (w_X6_tallyFor_old (d - 1) _ _ _ _ _ fs tl f (by omega) hW ha0 hx h5 htl ho hb1 hb2 (by rw [(jI_inj.mp (he3.eq.trans rfl) : y3 = 0)]; exact hb30) hb4) (by omega) (Nat.zero_le _) (Nat.zero_le _) (Nat.le_of_ble_eq_true rfl) (fun r4 V4 h4 => ?_)
  obtain ⟨hr4, hE4⟩ := h4
  have hE4 := hE4.symm
  subst hE4
  obtain ⟨j2, t2, hj2, hg2, ht2, rfl⟩ := hr4
  · have hj3 := (hjj j2 hg2 hj2).symm
    subst hj3
    have ht3 := Option.some.inj (hf.symm.trans ht2)
    subst ht3
    refine J_astore_n dX6_walks_7 rfl (by decide) ?_
    refine J_aload_n dX6_walks_8 rfl ?_
    refine J_ifnonnull (tgt := 15) dX6_walks_9 (by decide) ?_
    refine J_aload_n dX6_walks_15 rfl ?_
    refine J_iload_n dX6_walks_16 rfl ?_
    refine Jw_callV1 (q9 := (RX4, TX4, 14)) moX4_holds jw_ml_X6_153 jw_im_X4_holds jw_se_X4_holds hbt rfl rfl dX6_walks_17 (w_X4_holds_z (d - 1) _ t x2 gv R sd cd tg sp (A j).1 (A j).2.1 (A j).2.2.1 (A j).2.2.2.1 (A j).2.2.2.2 ln TK WC SQ RC BC (by omega) hW  hbt ⟨_, hT, hF0⟩ ⟨_, hT, hF1⟩ ⟨_, hT, hF2⟩ ⟨_, hT, hF11⟩ ⟨_, hT, hF12⟩ ⟨_, hT, hF13⟩ ⟨_, hT, hF3⟩ ⟨_, hT, hF4⟩ ⟨_, hT, hF5⟩ ⟨_, hT, hF6⟩ ⟨_, hT, hF7⟩ d3 d4 d5 d6 d7 hgq0 hgq3 e2 e3 e4 (by omega) (by omega) htk htal) (by omega) (Nat.zero_le _) (Nat.zero_le _) (Nat.le_of_ble_eq_true rfl) (fun r17 V17 h17 => ?_)
    obtain ⟨h17, hX17_0, hX17_1, hX17_2, hX17_3, ⟨fv17_0, hfv17_0, hfp17_0⟩, ⟨fv17_1, hfv17_1, hfp17_1⟩, ⟨fv17_2, hfv17_2, hfp17_2⟩⟩ := h17
    obtain ⟨hW, hx17, hr17⟩ := h17
    have he := he.trans (hx17.sub (jsub_of rfl))
    have ha0 := ha0.mono hx17.1
    have htlk := htlk.mono hx17.1
    have hbt := hbt.mono hx17.1
    have hbq3 := hbq3.mono hx17.1
    have hbq4 := hbq4.mono hx17.1
    have hbq5 := hbq5.mono hx17.1
    have hbq6 := hbq6.mono hx17.1
    have hbq7 := hbq7.mono hx17.1
    have hx := hx17.2 _ _ hx (jnot_of rfl)
    have hKx := hKx.mono hx17.1
    obtain ⟨fs17t, hOfs17t, hRfs17t⟩ := hx17.1.keep hT
    have hKfs17t : jokO _ (jFs 2) fs17t := hW _ _ id hOfs17t
    have hFfs17t_3 := hRfs17t _ _ hF3
    have hFfs17t_4 := hRfs17t _ _ hF4
    have hFfs17t_5 := hRfs17t _ _ hF5
    have hFfs17t_6 := hRfs17t _ _ hF6
    have hFfs17t_7 := hRfs17t _ _ hF7
    obtain ⟨y17, rfl, hl17, hh17, hP17_0⟩ := hr17
    have hFv17_0 := hfv17_0.get hOfs17t
    have hsb17_0 : gv = fv17_0 := (jI_inj.mp hfp17_0).symm
    subst hsb17_0
    have hFv17_1 := hfv17_1.get hOfs17t
    have hsb17_1 : R = fv17_1 := (jI_inj.mp hfp17_1).symm
    subst hsb17_1
    have hFv17_2 := hfv17_2.get hOfs17t
    have hsb17_2 : sd = fv17_2 := (jI_inj.mp hfp17_2).symm
    subst hsb17_2
    clear hX17_0
    rw [e1] at hP17_0 hX17_1 hX17_2
    obtain ⟨WC17, SQ17, RC17, BC17, ⟨a4, a5, a6, a7⟩, hhas⟩ := hX17_2
    have hH9 := jHid.mk hhas
    clear hhas
    have hHP := jHid.mk hP17_0
    clear hP17_0
    have hjt : jTL V17 a0 := jTL.upd hx0 h50 htl0 hty4 hA5 he (jnot_of rfl) hj hf hty hX17_1 (fun b hb e q _ => (hX17_3 b hb).trans q)
    obtain ⟨hN_WC17, hv_WC17⟩ := WT_rngI (r := ((-2147483648), 2147483647)) hW id rfl a4
    clear hN_WC17
    obtain ⟨hN_RC17, hv_RC17⟩ := WT_rngI (r := ((-2147483648), 2147483647)) hW id rfl a6
    clear hN_RC17
    obtain ⟨hN_BC17, hv_BC17⟩ := WT_rngI (r := ((-2147483648), 2147483647)) hW id rfl a7
    clear hN_BC17
    refine Jz_if_eq (tgt := 34) jEq.rf dX6_walks_20 (by decide) (fun c20 => ?_) (fun c20 => ?_)
    · refine Jz_bipush (-5) dX6_walks_34 (by decide) (fun y34 he34 => ?_)
      exact J_ret (r := some (.int _)) dX6_walks_36 ⟨rfl, _, rfl, rfl⟩ (⟨⟨hW, he, ⟨_, rfl, (j_rng _).1, (j_rng _).2, (Or.inr ⟨hHP.o.elim (fun q => absurd q.1 (by omega)) (fun q => q.2), he34.eq⟩)⟩⟩, hjt⟩)
    · have hle := jHid.mk (hHP.o.elim (fun q => q.2) (fun q => absurd q.1 (by omega)))
      have hh9 := jHid.mk (hH9.o hle.o)
      refine J_aload_n dX6_walks_23 rfl ?_
      refine J_get jf_X6_156 dX6_walks_24 hOfs17t hFfs17t_4 ?_
      refine J_iload_n dX6_walks_27 rfl ?_
      refine J_callS2 moX6_cell jw_ml_X6_110 jw_st_X6_cell dX6_walks_28 (w_X6_cell_x (d - 1) _ (A j).2.1 x2 a4 (WT_rngI (r := (-2147483648, 2147483647)) hW id rfl a4).1 rfl (by omega) (by omega)) (by omega) (Nat.zero_le _) (Nat.zero_le _) (Nat.le_of_ble_eq_true rfl) (fun r28 V28 h28 => ?_)
      obtain ⟨⟨y28, rfl, hf28⟩, hE28⟩ := h28
      have hE28 := hE28.symm
      subst hE28
      have hz28 : jEq y28.toInt (WC17 (x2.toInt).toNat).toInt := by rw [← hf28]; rfl
      clear hf28
      · refine J_goto (tgt := 36) dX6_walks_31 (by decide) ?_
        exact J_ret (r := some (.int _)) dX6_walks_36 ⟨rfl, _, rfl, rfl⟩ (⟨⟨hW, he, ⟨_, rfl, (j_rng _).1, (j_rng _).2, (Or.inl ⟨hle.o, (hz28.eq.trans hh9.o.1)⟩)⟩⟩, hjt⟩)
set_option maxRecDepth 100000 in
set_option maxHeartbeats 8000000 in
theorem w_X6_walks_znew {tS : jTS} (d : Nat) (V0 : jH) (a0 : Nat) (x1 : Int32) (x2 : Int32) (fs : List Value) (tl : Nat) (f : Nat → Option Nat) (j : Nat) (A : Nat → jad) (hd : 28 ≤ d) (hW : WT V0) (ha0 : jis V0 (.inr 4) a0) (hx : V0 a0 = some (.inr (4, fs))) (h5 : fs[5]? = some (.ref tl)) (htl : V0 tl = some (.inl (5, 4, .inr (.inr (.inr (.inr f)))))) (hg : x1 = nI j) (hj : j < 4) (hb1 : ¬ x1 < 0) (hb2 : ¬ Int32.ofNat 4 ≤ x1) (hb3 : ¬ x2 < 0) (hb4 : x2 ≤ 20) (hf : f j = none) (hty4 : ∀ j : Nat, j < 4 → f j = none ∨ ∃ t : Nat, f j = some t ∧ jty V0 t (A j) (j : Int)) (hA5 : ∀ i j : Nat, i < 4 → j < 4 → i ≠ j → f i ≠ none → f j ≠ none → jsp (A i) (A j)) (hp0 : 0 ≤ x2.toInt) (hp1 : x2.toInt ≤ 20) : jTot tS mX6_walks d [.ref a0, .int x1, .int x2] V0 8 15738 (fun r V => (jPost [.inl 5, .inr 2, .inl 1, .inl 2, .inl 8, .inl 37, .inl 38] V0 (fun r _ => ∃ y : Int32, r = some (.int y) ∧ ((-2147483648) ≤ y.toInt) ∧ (y.toInt ≤ 2147483647) ∧ ((jTT (j : Int) x2.toInt.toNat jL0 ≤ 600000 ∧ y.toInt = ((jrq (j : Int) x2.toInt.toNat).1 : Int)) ∨ (600000 < jTT (j : Int) x2.toInt.toNat jL0 ∧ y.toInt = -5)))) r V ∧ jTL V a0 ∧ (∃ f2 : Nat → Option Nat, V tl = some (.inl (5, 4, .inr (.inr (.inr (.inr f2))))) ∧ (∀ i, i ≠ j → f2 i = f i) ∧ ∃ t, f2 j = some t) ∧ (jTF V0 a0 → jTF V a0)) := by
  refine jTot.of_J [some (.ref a0), some (.int x1), some (.int x2), none] moX6_walks (Nat.le_of_ble_eq_true rfl) rfl ?_
  have hrx1 := j_rng x1
  have hrx2 := j_rng x2
  have he : jeff [.inl 5, .inr 2, .inl 1, .inl 2, .inl 8, .inl 37, .inl 38] V0 V0 := jeff.refl _ _
  have hb30 := hb3
  have hKx : jokO V0 (jFs 4) fs := hW _ _ id hx
  have htlk : jis V0 (.inl 5) tl := ⟨_, htl, rfl⟩
  have hN4 : (4 : Nat) < 2 ^ 31 := by decide
  have hvt : ∀ (j b : Nat), j < 4 → f j = some b → jis V0 (.inr 2) b := by
    obtain ⟨n9, f9, h91, h92, h93, h94⟩ := WT_arrR hW id rfl htlk
    cases htl.symm.trans h91
    exact h94
  have hjj : ∀ j2 : Nat, x1 = nI j2 → j2 < 4 → j2 = j := fun j2 h1 h2 => by
    have h3 : x1.toNatClampNeg = j2 := by rw [h1]; exact nI_clamp (by omega)
    have h4 : x1.toNatClampNeg = j := by rw [hg]; exact nI_clamp (by omega)
    omega
  clear hN4
  have hx0 := hx
  have h50 := h5
  have htl0 := htl
  have hgj : x1.toInt = (j : Int) := by rw [hg]; exact nI_toInt (by omega)
  refine J_aload_n dX6_walks_0 rfl ?_
  refine J_iload_n dX6_walks_1 rfl ?_
  refine J_iload_n dX6_walks_2 rfl ?_
  refine Jz_iconst 0 dX6_walks_3 (by decide) (fun y3 he3 => ?_)
  refine Jw_callV3 (q9 := (RX6, TX6, 7)) moX6_tallyFor jw_ml_X6_149 jw_im_X6_tallyFor jw_se_X6_tallyFor ha0 rfl rfl dX6_walks_4 (w_X6_tallyFor_newz (d - 1) _ _ _ _ _ fs tl f j (by omega) hW ha0 hx h5 htl hg hj hf hb1 hb2 (by rw [(jI_inj.mp (he3.eq.trans rfl) : y3 = 0)]; exact hb30) hb4) (by omega) (by omega) (by omega) (Nat.le_of_ble_eq_true rfl) (fun r4 V4 h4 => ?_)
  obtain ⟨t, rfl, hW, hx4, hbt0, htl2, hjm⟩ := h4
  have he := he.trans (hx4.sub (jsub_of rfl))
  have ha0 := ha0.mono hx4.1
  have htlk := htlk.mono hx4.1
  have hx := hx4.2 _ _ hx (jnot_of rfl)
  have hKx := hKx.mono hx4.1
  have htlk : jis V4 (.inl 5) tl := ⟨_, htl2, rfl⟩
  obtain ⟨P, hnew, hty, hnf, hfa⟩ := hjm
  have htf : jHid (jTF V0 a0 → jTF V4 a0) := jHid.mk (fun q => jTF.fresh q hx0 h50 htl0 hx4.1 htl2 hf (va_up_self _ _ _) (fun i hi => va_up_ne _ _ hi) hnf hfa)
  obtain ⟨gv, R, sd, cd, tg, sp, ln, TK, WC, SQ, RC, BC, ⟨e1, e2, e3, e4⟩, ⟨⟨ts, hT, hF0⟩, i1, i2, i3, i4, i5⟩, ⟨r3, r4, r5, r6, r7⟩, ⟨d3, d4, d5, d6, d7⟩, htk, htal⟩ := id hty
  rw [← e1] at e2 e3 e4 htk htal
  have hF1 := i1.get hT
  have hF2 := i2.get hT
  have hF11 := i3.get hT
  have hF12 := i4.get hT
  have hF13 := i5.get hT
  have hF3 := r3.get hT
  have hF4 := r4.get hT
  have hF5 := r5.get hT
  have hF6 := r6.get hT
  have hF7 := r7.get hT
  have hbt : jis V4 (.inr 2) t := ⟨_, hT, rfl⟩
  have hKt : jokO V4 (jFs 2) ts := hW _ _ id hT
  have hbq3 : jis V4 (.inl 2) _ := ⟨_, d3, rfl⟩
  have hbq4 : jis V4 (.inl 8) _ := ⟨_, d4, rfl⟩
  have hbq5 : jis V4 (.inl 1) _ := ⟨_, d5, rfl⟩
  have hbq6 : jis V4 (.inl 37) _ := ⟨_, d6, rfl⟩
  have hbq7 : jis V4 (.inl 38) _ := ⟨_, d7, rfl⟩
  have hgq0 : 0 ≤ gv.toInt := by omega
  have hgq3 : gv.toInt ≤ 3 := by omega
  · refine J_astore_n dX6_walks_7 rfl (by decide) ?_
    refine J_aload_n dX6_walks_8 rfl ?_
    refine J_ifnonnull (tgt := 15) dX6_walks_9 (by decide) ?_
    refine J_aload_n dX6_walks_15 rfl ?_
    refine J_iload_n dX6_walks_16 rfl ?_
    refine Jw_callV1 (q9 := (RX4, TX4, 14)) moX4_holds jw_ml_X6_153 jw_im_X4_holds jw_se_X4_holds hbt rfl rfl dX6_walks_17 (w_X4_holds_z (d - 1) _ t x2 gv R sd cd tg sp P.1 P.2.1 P.2.2.1 P.2.2.2.1 P.2.2.2.2 ln TK WC SQ RC BC (by omega) hW  hbt ⟨_, hT, hF0⟩ ⟨_, hT, hF1⟩ ⟨_, hT, hF2⟩ ⟨_, hT, hF11⟩ ⟨_, hT, hF12⟩ ⟨_, hT, hF13⟩ ⟨_, hT, hF3⟩ ⟨_, hT, hF4⟩ ⟨_, hT, hF5⟩ ⟨_, hT, hF6⟩ ⟨_, hT, hF7⟩ d3 d4 d5 d6 d7 hgq0 hgq3 e2 e3 e4 (by omega) (by omega) htk htal) (by omega) (Nat.zero_le _) (Nat.zero_le _) (Nat.le_of_ble_eq_true rfl) (fun r17 V17 h17 => ?_)
    obtain ⟨h17, hX17_0, hX17_1, hX17_2, hX17_3, ⟨fv17_0, hfv17_0, hfp17_0⟩, ⟨fv17_1, hfv17_1, hfp17_1⟩, ⟨fv17_2, hfv17_2, hfp17_2⟩⟩ := h17
    obtain ⟨hW, hx17, hr17⟩ := h17
    have he := he.trans (hx17.sub (jsub_of rfl))
    have ha0 := ha0.mono hx17.1
    have htlk := htlk.mono hx17.1
    have hbt := hbt.mono hx17.1
    have hbq3 := hbq3.mono hx17.1
    have hbq4 := hbq4.mono hx17.1
    have hbq5 := hbq5.mono hx17.1
    have hbq6 := hbq6.mono hx17.1
    have hbq7 := hbq7.mono hx17.1
    have hx := hx17.2 _ _ hx (jnot_of rfl)
    have hKx := hKx.mono hx17.1
    obtain ⟨fs17t, hOfs17t, hRfs17t⟩ := hx17.1.keep hT
    have hKfs17t : jokO _ (jFs 2) fs17t := hW _ _ id hOfs17t
    have hFfs17t_3 := hRfs17t _ _ hF3
    have hFfs17t_4 := hRfs17t _ _ hF4
    have hFfs17t_5 := hRfs17t _ _ hF5
    have hFfs17t_6 := hRfs17t _ _ hF6
    have hFfs17t_7 := hRfs17t _ _ hF7
    have htl2 := hx17.2 _ _ htl2 (jnot_of rfl)
    obtain ⟨y17, rfl, hl17, hh17, hP17_0⟩ := hr17
    have hFv17_0 := hfv17_0.get hOfs17t
    have hsb17_0 : gv = fv17_0 := (jI_inj.mp hfp17_0).symm
    subst hsb17_0
    have hFv17_1 := hfv17_1.get hOfs17t
    have hsb17_1 : R = fv17_1 := (jI_inj.mp hfp17_1).symm
    subst hsb17_1
    have hFv17_2 := hfv17_2.get hOfs17t
    have hsb17_2 : sd = fv17_2 := (jI_inj.mp hfp17_2).symm
    subst hsb17_2
    clear hX17_0
    rw [e1] at hP17_0 hX17_1 hX17_2
    obtain ⟨WC17, SQ17, RC17, BC17, ⟨a4, a5, a6, a7⟩, hhas⟩ := hX17_2
    have hH9 := jHid.mk hhas
    clear hhas
    have hHP := jHid.mk hP17_0
    clear hP17_0
    have hjt : jTL V17 a0 := jTL.fresh hx0 h50 hty4 hA5 he.1 htl2 hj hf (va_up_self _ _ _) (fun i hi => va_up_ne _ _ hi) hX17_1 hnew (jTL.frs ⟨_, htl0, rfl⟩ hnew hfa hX17_3)
    obtain ⟨hN_WC17, hv_WC17⟩ := WT_rngI (r := ((-2147483648), 2147483647)) hW id rfl a4
    clear hN_WC17
    obtain ⟨hN_RC17, hv_RC17⟩ := WT_rngI (r := ((-2147483648), 2147483647)) hW id rfl a6
    clear hN_RC17
    obtain ⟨hN_BC17, hv_BC17⟩ := WT_rngI (r := ((-2147483648), 2147483647)) hW id rfl a7
    clear hN_BC17
    refine Jz_if_eq (tgt := 34) jEq.rf dX6_walks_20 (by decide) (fun c20 => ?_) (fun c20 => ?_)
    · refine Jz_bipush (-5) dX6_walks_34 (by decide) (fun y34 he34 => ?_)
      exact J_ret (r := some (.int _)) dX6_walks_36 ⟨rfl, _, rfl, rfl⟩ (⟨⟨hW, he, ⟨_, rfl, (j_rng _).1, (j_rng _).2, (Or.inr ⟨hHP.o.elim (fun q => absurd q.1 (by omega)) (fun q => q.2), he34.eq⟩)⟩⟩, hjt, ⟨_, htl2, fun i hi => va_up_ne _ _ hi, _, va_up_self _ _ _⟩, (fun q => (htf.o q).keep hx17 (jdis_of rfl))⟩)
    · have hle := jHid.mk (hHP.o.elim (fun q => q.2) (fun q => absurd q.1 (by omega)))
      have hh9 := jHid.mk (hH9.o hle.o)
      refine J_aload_n dX6_walks_23 rfl ?_
      refine J_get jf_X6_156 dX6_walks_24 hOfs17t hFfs17t_4 ?_
      refine J_iload_n dX6_walks_27 rfl ?_
      refine J_callS2 moX6_cell jw_ml_X6_110 jw_st_X6_cell dX6_walks_28 (w_X6_cell_x (d - 1) _ P.2.1 x2 a4 (WT_rngI (r := (-2147483648, 2147483647)) hW id rfl a4).1 rfl (by omega) (by omega)) (by omega) (Nat.zero_le _) (Nat.zero_le _) (Nat.le_of_ble_eq_true rfl) (fun r28 V28 h28 => ?_)
      obtain ⟨⟨y28, rfl, hf28⟩, hE28⟩ := h28
      have hE28 := hE28.symm
      subst hE28
      have hz28 : jEq y28.toInt (WC17 (x2.toInt).toNat).toInt := by rw [← hf28]; rfl
      clear hf28
      · refine J_goto (tgt := 36) dX6_walks_31 (by decide) ?_
        exact J_ret (r := some (.int _)) dX6_walks_36 ⟨rfl, _, rfl, rfl⟩ (⟨⟨hW, he, ⟨_, rfl, (j_rng _).1, (j_rng _).2, (Or.inl ⟨hle.o, (hz28.eq.trans hh9.o.1)⟩)⟩⟩, hjt, ⟨_, htl2, fun i hi => va_up_ne _ _ hi, _, va_up_self _ _ _⟩, (fun q => (htf.o q).keep hx17 (jdis_of rfl))⟩)
set_option maxRecDepth 100000 in
set_option maxHeartbeats 8000000 in
theorem w_X6_squares_zbad {tS : jTS} (d : Nat) (V0 : jH) (a0 : Nat) (x1 : Int32) (x2 : Int32) (hd : 28 ≤ d) (hW : WT V0) (ha0 : jis V0 (.inr 4) a0) (hbad : x1 < 0 ∨ Int32.ofNat 4 ≤ x1 ∨ x2 < 0 ∨ ¬ x2 ≤ 20) : jTot tS mX6_squares d [.ref a0, .int x1, .int x2] V0 0 0 (fun r V => (fun r _ => ∃ y : Int64, r = some (.long y) ∧ (y = -2)) r V ∧ V = V0) := by
  refine jTot.of_J [some (.ref a0), some (.int x1), some (.int x2), none] moX6_squares (Nat.le_of_ble_eq_true rfl) rfl ?_
  have hrx1 := j_rng x1
  have hrx2 := j_rng x2
  have he : jeff [] V0 V0 := jeff.refl _ _
  refine J_aload_n dX6_squares_0 rfl ?_
  refine J_iload_n dX6_squares_1 rfl ?_
  refine J_iload_n dX6_squares_2 rfl ?_
  refine Jz_iconst 0 dX6_squares_3 (by decide) (fun y3 he3 => ?_)
  refine Jw_callV3 (q9 := (RX6, TX6, 7)) moX6_tallyFor jw_ml_X6_149 jw_im_X6_tallyFor jw_se_X6_tallyFor ha0 rfl rfl dX6_squares_4 (w_X6_tallyFor_bad (d - 1) _ _ _ _ _ (by omega) hW ha0 (by rw [(jI_inj.mp (he3.eq.trans rfl) : y3 = 0)]; exact hbad)) (by omega) (Nat.zero_le _) (Nat.zero_le _) (Nat.le_of_ble_eq_true rfl) (fun r4 V4 h4 => ?_)
  obtain ⟨rfl, hE4⟩ := h4
  have hE4 := hE4.symm
  subst hE4
  · refine J_astore_nN dX6_squares_7 rfl (by decide) ?_
    refine J_aload_nN dX6_squares_8 rfl ?_
    refine J_ifnonnullN dX6_squares_9 ?_
    refine J_ldc2 jw_k_X6_159 dX6_squares_12 ?_
    exact J_ret (r := some (.long _)) dX6_squares_15 ⟨rfl, rfl⟩ (⟨⟨_, rfl, rfl⟩, rfl⟩)
set_option maxRecDepth 100000 in
set_option maxHeartbeats 8000000 in
theorem w_X6_squares_zold {tS : jTS} (d : Nat) (V0 : jH) (a0 : Nat) (x1 : Int32) (x2 : Int32) (fs : List Value) (tl : Nat) (f : Nat → Option Nat) (j : Nat) (A : Nat → jad) (t : Nat) (hd : 28 ≤ d) (hW : WT V0) (ha0 : jis V0 (.inr 4) a0) (hx : V0 a0 = some (.inr (4, fs))) (h5 : fs[5]? = some (.ref tl)) (htl : V0 tl = some (.inl (5, 4, .inr (.inr (.inr (.inr f)))))) (hg : x1 = nI j) (hj : j < 4) (hb1 : ¬ x1 < 0) (hb2 : ¬ Int32.ofNat 4 ≤ x1) (hb3 : ¬ x2 < 0) (hb4 : x2 ≤ 20) (hf : f j = some t) (hty4 : ∀ j : Nat, j < 4 → f j = none ∨ ∃ t : Nat, f j = some t ∧ jty V0 t (A j) (j : Int)) (hA5 : ∀ i j : Nat, i < 4 → j < 4 → i ≠ j → f i ≠ none → f j ≠ none → jsp (A i) (A j)) (hp0 : 0 ≤ x2.toInt) (hp1 : x2.toInt ≤ 20) : jTot tS mX6_squares d [.ref a0, .int x1, .int x2] V0 0 0 (fun r V => (jPost [.inr 2, .inl 1, .inl 2, .inl 8, .inl 37, .inl 38] V0 (fun r _ => ∃ y : Int64, r = some (.long y) ∧ ((jTT (j : Int) x2.toInt.toNat jL0 ≤ 600000 ∧ y = (jrq (j : Int) x2.toInt.toNat).2.1) ∨ (600000 < jTT (j : Int) x2.toInt.toNat jL0 ∧ y = -5)))) r V ∧ jTL V a0) := by
  refine jTot.of_J [some (.ref a0), some (.int x1), some (.int x2), none] moX6_squares (Nat.le_of_ble_eq_true rfl) rfl ?_
  have hrx1 := j_rng x1
  have hrx2 := j_rng x2
  have he : jeff [.inr 2, .inl 1, .inl 2, .inl 8, .inl 37, .inl 38] V0 V0 := jeff.refl _ _
  have hb30 := hb3
  have hKx : jokO V0 (jFs 4) fs := hW _ _ id hx
  have htlk : jis V0 (.inl 5) tl := ⟨_, htl, rfl⟩
  have hN4 : (4 : Nat) < 2 ^ 31 := by decide
  have hvt : ∀ (j b : Nat), j < 4 → f j = some b → jis V0 (.inr 2) b := by
    obtain ⟨n9, f9, h91, h92, h93, h94⟩ := WT_arrR hW id rfl htlk
    cases htl.symm.trans h91
    exact h94
  have hjj : ∀ j2 : Nat, x1 = nI j2 → j2 < 4 → j2 = j := fun j2 h1 h2 => by
    have h3 : x1.toNatClampNeg = j2 := by rw [h1]; exact nI_clamp (by omega)
    have h4 : x1.toNatClampNeg = j := by rw [hg]; exact nI_clamp (by omega)
    omega
  clear hN4
  have hx0 := hx
  have h50 := h5
  have htl0 := htl
  have hgj : x1.toInt = (j : Int) := by rw [hg]; exact nI_toInt (by omega)
  have ho : ∀ j2, x1 = nI j2 → j2 < 4 → ∃ t2, f j2 = some t2 := fun j2 h1 h2 => ⟨t, by rw [hjj j2 h1 h2]; exact hf⟩
  have hty : jty V0 t (A j) (j : Int) := (hty4 j hj).elim (fun q => by rw [q] at hf; cases hf) (fun ⟨t2, q1, q2⟩ => by cases q1.symm.trans hf; exact q2)
  obtain ⟨gv, R, sd, cd, tg, sp, ln, TK, WC, SQ, RC, BC, ⟨e1, e2, e3, e4⟩, ⟨⟨ts, hT, hF0⟩, i1, i2, i3, i4, i5⟩, ⟨r3, r4, r5, r6, r7⟩, ⟨d3, d4, d5, d6, d7⟩, htk, htal⟩ := id hty
  rw [← e1] at e2 e3 e4 htk htal
  have hF1 := i1.get hT
  have hF2 := i2.get hT
  have hF11 := i3.get hT
  have hF12 := i4.get hT
  have hF13 := i5.get hT
  have hF3 := r3.get hT
  have hF4 := r4.get hT
  have hF5 := r5.get hT
  have hF6 := r6.get hT
  have hF7 := r7.get hT
  have hbt : jis V0 (.inr 2) t := ⟨_, hT, rfl⟩
  have hKt : jokO V0 (jFs 2) ts := hW _ _ id hT
  have hbq3 : jis V0 (.inl 2) _ := ⟨_, d3, rfl⟩
  have hbq4 : jis V0 (.inl 8) _ := ⟨_, d4, rfl⟩
  have hbq5 : jis V0 (.inl 1) _ := ⟨_, d5, rfl⟩
  have hbq6 : jis V0 (.inl 37) _ := ⟨_, d6, rfl⟩
  have hbq7 : jis V0 (.inl 38) _ := ⟨_, d7, rfl⟩
  have hgq0 : 0 ≤ gv.toInt := by omega
  have hgq3 : gv.toInt ≤ 3 := by omega
  refine J_aload_n dX6_squares_0 rfl ?_
  refine J_iload_n dX6_squares_1 rfl ?_
  refine J_iload_n dX6_squares_2 rfl ?_
  refine Jz_iconst 0 dX6_squares_3 (by decide) (fun y3 he3 => ?_)
  refine Jw_callV3 (q9 := (RX6, TX6, 7)) moX6_tallyFor jw_ml_X6_149 jw_im_X6_tallyFor jw_se_X6_tallyFor ha0 rfl rfl dX6_squares_4 (w_X6_tallyFor_old (d - 1) _ _ _ _ _ fs tl f (by omega) hW ha0 hx h5 htl ho hb1 hb2 (by rw [(jI_inj.mp (he3.eq.trans rfl) : y3 = 0)]; exact hb30) hb4) (by omega) (Nat.zero_le _) (Nat.zero_le _) (Nat.le_of_ble_eq_true rfl) (fun r4 V4 h4 => ?_)
  obtain ⟨hr4, hE4⟩ := h4
  have hE4 := hE4.symm
  subst hE4
  obtain ⟨j2, t2, hj2, hg2, ht2, rfl⟩ := hr4
  · have hj3 := (hjj j2 hg2 hj2).symm
    subst hj3
    have ht3 := Option.some.inj (hf.symm.trans ht2)
    subst ht3
    refine J_astore_n dX6_squares_7 rfl (by decide) ?_
    refine J_aload_n dX6_squares_8 rfl ?_
    refine J_ifnonnull (tgt := 16) dX6_squares_9 (by decide) ?_
    refine J_aload_n dX6_squares_16 rfl ?_
    refine J_iload_n dX6_squares_17 rfl ?_
    refine Jw_callV1 (q9 := (RX4, TX4, 14)) moX4_holds jw_ml_X6_153 jw_im_X4_holds jw_se_X4_holds hbt rfl rfl dX6_squares_18 (w_X4_holds_z (d - 1) _ t x2 gv R sd cd tg sp (A j).1 (A j).2.1 (A j).2.2.1 (A j).2.2.2.1 (A j).2.2.2.2 ln TK WC SQ RC BC (by omega) hW  hbt ⟨_, hT, hF0⟩ ⟨_, hT, hF1⟩ ⟨_, hT, hF2⟩ ⟨_, hT, hF11⟩ ⟨_, hT, hF12⟩ ⟨_, hT, hF13⟩ ⟨_, hT, hF3⟩ ⟨_, hT, hF4⟩ ⟨_, hT, hF5⟩ ⟨_, hT, hF6⟩ ⟨_, hT, hF7⟩ d3 d4 d5 d6 d7 hgq0 hgq3 e2 e3 e4 (by omega) (by omega) htk htal) (by omega) (Nat.zero_le _) (Nat.zero_le _) (Nat.le_of_ble_eq_true rfl) (fun r18 V18 h18 => ?_)
    obtain ⟨h18, hX18_0, hX18_1, hX18_2, hX18_3, ⟨fv18_0, hfv18_0, hfp18_0⟩, ⟨fv18_1, hfv18_1, hfp18_1⟩, ⟨fv18_2, hfv18_2, hfp18_2⟩⟩ := h18
    obtain ⟨hW, hx18, hr18⟩ := h18
    have he := he.trans (hx18.sub (jsub_of rfl))
    have ha0 := ha0.mono hx18.1
    have htlk := htlk.mono hx18.1
    have hbt := hbt.mono hx18.1
    have hbq3 := hbq3.mono hx18.1
    have hbq4 := hbq4.mono hx18.1
    have hbq5 := hbq5.mono hx18.1
    have hbq6 := hbq6.mono hx18.1
    have hbq7 := hbq7.mono hx18.1
    have hx := hx18.2 _ _ hx (jnot_of rfl)
    have hKx := hKx.mono hx18.1
    obtain ⟨fs18t, hOfs18t, hRfs18t⟩ := hx18.1.keep hT
    have hKfs18t : jokO _ (jFs 2) fs18t := hW _ _ id hOfs18t
    have hFfs18t_3 := hRfs18t _ _ hF3
    have hFfs18t_4 := hRfs18t _ _ hF4
    have hFfs18t_5 := hRfs18t _ _ hF5
    have hFfs18t_6 := hRfs18t _ _ hF6
    have hFfs18t_7 := hRfs18t _ _ hF7
    obtain ⟨y18, rfl, hl18, hh18, hP18_0⟩ := hr18
    have hFv18_0 := hfv18_0.get hOfs18t
    have hsb18_0 : gv = fv18_0 := (jI_inj.mp hfp18_0).symm
    subst hsb18_0
    have hFv18_1 := hfv18_1.get hOfs18t
    have hsb18_1 : R = fv18_1 := (jI_inj.mp hfp18_1).symm
    subst hsb18_1
    have hFv18_2 := hfv18_2.get hOfs18t
    have hsb18_2 : sd = fv18_2 := (jI_inj.mp hfp18_2).symm
    subst hsb18_2
    clear hX18_0
    rw [e1] at hP18_0 hX18_1 hX18_2
    obtain ⟨WC18, SQ18, RC18, BC18, ⟨a4, a5, a6, a7⟩, hhas⟩ := hX18_2
    have hH9 := jHid.mk hhas
    clear hhas
    have hHP := jHid.mk hP18_0
    clear hP18_0
    have hjt : jTL V18 a0 := jTL.upd hx0 h50 htl0 hty4 hA5 he (jnot_of rfl) hj hf hty hX18_1 (fun b hb e q _ => (hX18_3 b hb).trans q)
    obtain ⟨hN_WC18, hv_WC18⟩ := WT_rngI (r := ((-2147483648), 2147483647)) hW id rfl a4
    clear hN_WC18
    obtain ⟨hN_RC18, hv_RC18⟩ := WT_rngI (r := ((-2147483648), 2147483647)) hW id rfl a6
    clear hN_RC18
    obtain ⟨hN_BC18, hv_BC18⟩ := WT_rngI (r := ((-2147483648), 2147483647)) hW id rfl a7
    clear hN_BC18
    refine Jz_if_eq (tgt := 35) jEq.rf dX6_squares_21 (by decide) (fun c21 => ?_) (fun c21 => ?_)
    · refine J_ldc2 jw_k_X6_168 dX6_squares_35 ?_
      exact J_ret (r := some (.long _)) dX6_squares_38 ⟨rfl, rfl⟩ (⟨⟨hW, he, ⟨_, rfl, (Or.inr ⟨hHP.o.elim (fun q => absurd q.1 (by omega)) (fun q => q.2), rfl⟩)⟩⟩, hjt⟩)
    · have hle := jHid.mk (hHP.o.elim (fun q => q.2) (fun q => absurd q.1 (by omega)))
      have hh9 := jHid.mk (hH9.o hle.o)
      refine J_aload_n dX6_squares_24 rfl ?_
      refine J_get jf_X6_161 dX6_squares_25 hOfs18t hFfs18t_5 ?_
      refine J_iload_n dX6_squares_28 rfl ?_
      refine J_callS2 moX6_cell_ jw_ml_X6_165 jw_st_X6_cell_ dX6_squares_29 (w_X6_cell__x (d - 1) _ _ _ a5 (by decide) rfl (by omega) (by omega)) (by omega) (Nat.zero_le _) (Nat.zero_le _) (Nat.le_of_ble_eq_true rfl) (fun r29 V29 h29 => ?_)
      obtain ⟨⟨y29, rfl, hf29⟩, hE29⟩ := h29
      have hE29 := hE29.symm
      subst hE29
      · refine J_goto (tgt := 38) dX6_squares_32 (by decide) ?_
        exact J_ret (r := some (.long _)) dX6_squares_38 ⟨rfl, rfl⟩ (⟨⟨hW, he, ⟨_, rfl, (Or.inl ⟨hle.o, (hf29.symm.trans hh9.o.2.1)⟩)⟩⟩, hjt⟩)
set_option maxRecDepth 100000 in
set_option maxHeartbeats 8000000 in
theorem w_X6_squares_znew {tS : jTS} (d : Nat) (V0 : jH) (a0 : Nat) (x1 : Int32) (x2 : Int32) (fs : List Value) (tl : Nat) (f : Nat → Option Nat) (j : Nat) (A : Nat → jad) (hd : 28 ≤ d) (hW : WT V0) (ha0 : jis V0 (.inr 4) a0) (hx : V0 a0 = some (.inr (4, fs))) (h5 : fs[5]? = some (.ref tl)) (htl : V0 tl = some (.inl (5, 4, .inr (.inr (.inr (.inr f)))))) (hg : x1 = nI j) (hj : j < 4) (hb1 : ¬ x1 < 0) (hb2 : ¬ Int32.ofNat 4 ≤ x1) (hb3 : ¬ x2 < 0) (hb4 : x2 ≤ 20) (hf : f j = none) (hty4 : ∀ j : Nat, j < 4 → f j = none ∨ ∃ t : Nat, f j = some t ∧ jty V0 t (A j) (j : Int)) (hA5 : ∀ i j : Nat, i < 4 → j < 4 → i ≠ j → f i ≠ none → f j ≠ none → jsp (A i) (A j)) (hp0 : 0 ≤ x2.toInt) (hp1 : x2.toInt ≤ 20) : jTot tS mX6_squares d [.ref a0, .int x1, .int x2] V0 8 15738 (fun r V => (jPost [.inl 5, .inr 2, .inl 1, .inl 2, .inl 8, .inl 37, .inl 38] V0 (fun r _ => ∃ y : Int64, r = some (.long y) ∧ ((jTT (j : Int) x2.toInt.toNat jL0 ≤ 600000 ∧ y = (jrq (j : Int) x2.toInt.toNat).2.1) ∨ (600000 < jTT (j : Int) x2.toInt.toNat jL0 ∧ y = -5)))) r V ∧ jTL V a0 ∧ (∃ f2 : Nat → Option Nat, V tl = some (.inl (5, 4, .inr (.inr (.inr (.inr f2))))) ∧ (∀ i, i ≠ j → f2 i = f i) ∧ ∃ t, f2 j = some t) ∧ (jTF V0 a0 → jTF V a0)) := by
  refine jTot.of_J [some (.ref a0), some (.int x1), some (.int x2), none] moX6_squares (Nat.le_of_ble_eq_true rfl) rfl ?_
  have hrx1 := j_rng x1
  have hrx2 := j_rng x2
  have he : jeff [.inl 5, .inr 2, .inl 1, .inl 2, .inl 8, .inl 37, .inl 38] V0 V0 := jeff.refl _ _
  have hb30 := hb3
  have hKx : jokO V0 (jFs 4) fs := hW _ _ id hx
  have htlk : jis V0 (.inl 5) tl := ⟨_, htl, rfl⟩
  have hN4 : (4 : Nat) < 2 ^ 31 := by decide
  have hvt : ∀ (j b : Nat), j < 4 → f j = some b → jis V0 (.inr 2) b := by
    obtain ⟨n9, f9, h91, h92, h93, h94⟩ := WT_arrR hW id rfl htlk
    cases htl.symm.trans h91
    exact h94
  have hjj : ∀ j2 : Nat, x1 = nI j2 → j2 < 4 → j2 = j := fun j2 h1 h2 => by
    have h3 : x1.toNatClampNeg = j2 := by rw [h1]; exact nI_clamp (by omega)
    have h4 : x1.toNatClampNeg = j := by rw [hg]; exact nI_clamp (by omega)
    omega
  clear hN4
  have hx0 := hx
  have h50 := h5
  have htl0 := htl
  have hgj : x1.toInt = (j : Int) := by rw [hg]; exact nI_toInt (by omega)
  refine J_aload_n dX6_squares_0 rfl ?_
  refine J_iload_n dX6_squares_1 rfl ?_
  refine J_iload_n dX6_squares_2 rfl ?_
  refine Jz_iconst 0 dX6_squares_3 (by decide) (fun y3 he3 => ?_)
  refine Jw_callV3 (q9 := (RX6, TX6, 7)) moX6_tallyFor jw_ml_X6_149 jw_im_X6_tallyFor jw_se_X6_tallyFor ha0 rfl rfl dX6_squares_4 (w_X6_tallyFor_newz (d - 1) _ _ _ _ _ fs tl f j (by omega) hW ha0 hx h5 htl hg hj hf hb1 hb2 (by rw [(jI_inj.mp (he3.eq.trans rfl) : y3 = 0)]; exact hb30) hb4) (by omega) (by omega) (by omega) (Nat.le_of_ble_eq_true rfl) (fun r4 V4 h4 => ?_)
  obtain ⟨t, rfl, hW, hx4, hbt0, htl2, hjm⟩ := h4
  have he := he.trans (hx4.sub (jsub_of rfl))
  have ha0 := ha0.mono hx4.1
  have htlk := htlk.mono hx4.1
  have hx := hx4.2 _ _ hx (jnot_of rfl)
  have hKx := hKx.mono hx4.1
  have htlk : jis V4 (.inl 5) tl := ⟨_, htl2, rfl⟩
  obtain ⟨P, hnew, hty, hnf, hfa⟩ := hjm
  have htf : jHid (jTF V0 a0 → jTF V4 a0) := jHid.mk (fun q => jTF.fresh q hx0 h50 htl0 hx4.1 htl2 hf (va_up_self _ _ _) (fun i hi => va_up_ne _ _ hi) hnf hfa)
  obtain ⟨gv, R, sd, cd, tg, sp, ln, TK, WC, SQ, RC, BC, ⟨e1, e2, e3, e4⟩, ⟨⟨ts, hT, hF0⟩, i1, i2, i3, i4, i5⟩, ⟨r3, r4, r5, r6, r7⟩, ⟨d3, d4, d5, d6, d7⟩, htk, htal⟩ := id hty
  rw [← e1] at e2 e3 e4 htk htal
  have hF1 := i1.get hT
  have hF2 := i2.get hT
  have hF11 := i3.get hT
  have hF12 := i4.get hT
  have hF13 := i5.get hT
  have hF3 := r3.get hT
  have hF4 := r4.get hT
  have hF5 := r5.get hT
  have hF6 := r6.get hT
  have hF7 := r7.get hT
  have hbt : jis V4 (.inr 2) t := ⟨_, hT, rfl⟩
  have hKt : jokO V4 (jFs 2) ts := hW _ _ id hT
  have hbq3 : jis V4 (.inl 2) _ := ⟨_, d3, rfl⟩
  have hbq4 : jis V4 (.inl 8) _ := ⟨_, d4, rfl⟩
  have hbq5 : jis V4 (.inl 1) _ := ⟨_, d5, rfl⟩
  have hbq6 : jis V4 (.inl 37) _ := ⟨_, d6, rfl⟩
  have hbq7 : jis V4 (.inl 38) _ := ⟨_, d7, rfl⟩
  have hgq0 : 0 ≤ gv.toInt := by omega
  have hgq3 : gv.toInt ≤ 3 := by omega
  · refine J_astore_n dX6_squares_7 rfl (by decide) ?_
    refine J_aload_n dX6_squares_8 rfl ?_
    refine J_ifnonnull (tgt := 16) dX6_squares_9 (by decide) ?_
    refine J_aload_n dX6_squares_16 rfl ?_
    refine J_iload_n dX6_squares_17 rfl ?_
    refine Jw_callV1 (q9 := (RX4, TX4, 14)) moX4_holds jw_ml_X6_153 jw_im_X4_holds jw_se_X4_holds hbt rfl rfl dX6_squares_18 (w_X4_holds_z (d - 1) _ t x2 gv R sd cd tg sp P.1 P.2.1 P.2.2.1 P.2.2.2.1 P.2.2.2.2 ln TK WC SQ RC BC (by omega) hW  hbt ⟨_, hT, hF0⟩ ⟨_, hT, hF1⟩ ⟨_, hT, hF2⟩ ⟨_, hT, hF11⟩ ⟨_, hT, hF12⟩ ⟨_, hT, hF13⟩ ⟨_, hT, hF3⟩ ⟨_, hT, hF4⟩ ⟨_, hT, hF5⟩ ⟨_, hT, hF6⟩ ⟨_, hT, hF7⟩ d3 d4 d5 d6 d7 hgq0 hgq3 e2 e3 e4 (by omega) (by omega) htk htal) (by omega) (Nat.zero_le _) (Nat.zero_le _) (Nat.le_of_ble_eq_true rfl) (fun r18 V18 h18 => ?_)
    obtain ⟨h18, hX18_0, hX18_1, hX18_2, hX18_3, ⟨fv18_0, hfv18_0, hfp18_0⟩, ⟨fv18_1, hfv18_1, hfp18_1⟩, ⟨fv18_2, hfv18_2, hfp18_2⟩⟩ := h18
    obtain ⟨hW, hx18, hr18⟩ := h18
    have he := he.trans (hx18.sub (jsub_of rfl))
    have ha0 := ha0.mono hx18.1
    have htlk := htlk.mono hx18.1
    have hbt := hbt.mono hx18.1
    have hbq3 := hbq3.mono hx18.1
    have hbq4 := hbq4.mono hx18.1
    have hbq5 := hbq5.mono hx18.1
    have hbq6 := hbq6.mono hx18.1
    have hbq7 := hbq7.mono hx18.1
    have hx := hx18.2 _ _ hx (jnot_of rfl)
    have hKx := hKx.mono hx18.1
    obtain ⟨fs18t, hOfs18t, hRfs18t⟩ := hx18.1.keep hT
    have hKfs18t : jokO _ (jFs 2) fs18t := hW _ _ id hOfs18t
    have hFfs18t_3 := hRfs18t _ _ hF3
    have hFfs18t_4 := hRfs18t _ _ hF4
    have hFfs18t_5 := hRfs18t _ _ hF5
    have hFfs18t_6 := hRfs18t _ _ hF6
    have hFfs18t_7 := hRfs18t _ _ hF7
    have htl2 := hx18.2 _ _ htl2 (jnot_of rfl)
    obtain ⟨y18, rfl, hl18, hh18, hP18_0⟩ := hr18
    have hFv18_0 := hfv18_0.get hOfs18t
    have hsb18_0 : gv = fv18_0 := (jI_inj.mp hfp18_0).symm
    subst hsb18_0
    have hFv18_1 := hfv18_1.get hOfs18t
    have hsb18_1 : R = fv18_1 := (jI_inj.mp hfp18_1).symm
    subst hsb18_1
    have hFv18_2 := hfv18_2.get hOfs18t
    have hsb18_2 : sd = fv18_2 := (jI_inj.mp hfp18_2).symm
    subst hsb18_2
    clear hX18_0
    rw [e1] at hP18_0 hX18_1 hX18_2
    obtain ⟨WC18, SQ18, RC18, BC18, ⟨a4, a5, a6, a7⟩, hhas⟩ := hX18_2
    have hH9 := jHid.mk hhas
    clear hhas
    have hHP := jHid.mk hP18_0
    clear hP18_0
    have hjt : jTL V18 a0 := jTL.fresh hx0 h50 hty4 hA5 he.1 htl2 hj hf (va_up_self _ _ _) (fun i hi => va_up_ne _ _ hi) hX18_1 hnew (jTL.frs ⟨_, htl0, rfl⟩ hnew hfa hX18_3)
    obtain ⟨hN_WC18, hv_WC18⟩ := WT_rngI (r := ((-2147483648), 2147483647)) hW id rfl a4
    clear hN_WC18
    obtain ⟨hN_RC18, hv_RC18⟩ := WT_rngI (r := ((-2147483648), 2147483647)) hW id rfl a6
    clear hN_RC18
    obtain ⟨hN_BC18, hv_BC18⟩ := WT_rngI (r := ((-2147483648), 2147483647)) hW id rfl a7
    clear hN_BC18
    refine Jz_if_eq (tgt := 35) jEq.rf dX6_squares_21 (by decide) (fun c21 => ?_) (fun c21 => ?_)
    · refine J_ldc2 jw_k_X6_168 dX6_squares_35 ?_
      exact J_ret (r := some (.long _)) dX6_squares_38 ⟨rfl, rfl⟩ (⟨⟨hW, he, ⟨_, rfl, (Or.inr ⟨hHP.o.elim (fun q => absurd q.1 (by omega)) (fun q => q.2), rfl⟩)⟩⟩, hjt, ⟨_, htl2, fun i hi => va_up_ne _ _ hi, _, va_up_self _ _ _⟩, (fun q => (htf.o q).keep hx18 (jdis_of rfl))⟩)
    · have hle := jHid.mk (hHP.o.elim (fun q => q.2) (fun q => absurd q.1 (by omega)))
      have hh9 := jHid.mk (hH9.o hle.o)
      refine J_aload_n dX6_squares_24 rfl ?_
      refine J_get jf_X6_161 dX6_squares_25 hOfs18t hFfs18t_5 ?_
      refine J_iload_n dX6_squares_28 rfl ?_
      refine J_callS2 moX6_cell_ jw_ml_X6_165 jw_st_X6_cell_ dX6_squares_29 (w_X6_cell__x (d - 1) _ _ _ a5 (by decide) rfl (by omega) (by omega)) (by omega) (Nat.zero_le _) (Nat.zero_le _) (Nat.le_of_ble_eq_true rfl) (fun r29 V29 h29 => ?_)
      obtain ⟨⟨y29, rfl, hf29⟩, hE29⟩ := h29
      have hE29 := hE29.symm
      subst hE29
      · refine J_goto (tgt := 38) dX6_squares_32 (by decide) ?_
        exact J_ret (r := some (.long _)) dX6_squares_38 ⟨rfl, rfl⟩ (⟨⟨hW, he, ⟨_, rfl, (Or.inl ⟨hle.o, (hf29.symm.trans hh9.o.2.1)⟩)⟩⟩, hjt, ⟨_, htl2, fun i hi => va_up_ne _ _ hi, _, va_up_self _ _ _⟩, (fun q => (htf.o q).keep hx18 (jdis_of rfl))⟩)
set_option maxRecDepth 100000 in
set_option maxHeartbeats 8000000 in
theorem w_X6_rings_zbad {tS : jTS} (d : Nat) (V0 : jH) (a0 : Nat) (x1 : Int32) (x2 : Int32) (hd : 28 ≤ d) (hW : WT V0) (ha0 : jis V0 (.inr 4) a0) (hbad : x1 < 0 ∨ Int32.ofNat 4 ≤ x1 ∨ x2 < 3 ∨ ¬ x2 ≤ 20) : jTot tS mX6_rings d [.ref a0, .int x1, .int x2] V0 0 0 (fun r V => (fun r _ => ∃ y : Int32, r = some (.int y) ∧ ((-2147483648) ≤ y.toInt) ∧ (y.toInt ≤ 2147483647) ∧ (y.toInt = -2)) r V ∧ V = V0) := by
  refine jTot.of_J [some (.ref a0), some (.int x1), some (.int x2), none] moX6_rings (Nat.le_of_ble_eq_true rfl) rfl ?_
  have hrx1 := j_rng x1
  have hrx2 := j_rng x2
  have he : jeff [] V0 V0 := jeff.refl _ _
  refine J_aload_n dX6_rings_0 rfl ?_
  refine J_iload_n dX6_rings_1 rfl ?_
  refine J_iload_n dX6_rings_2 rfl ?_
  refine Jz_iconst 3 dX6_rings_3 (by decide) (fun y3 he3 => ?_)
  refine Jw_callV3 (q9 := (RX6, TX6, 7)) moX6_tallyFor jw_ml_X6_149 jw_im_X6_tallyFor jw_se_X6_tallyFor ha0 rfl rfl dX6_rings_4 (w_X6_tallyFor_bad (d - 1) _ _ _ _ _ (by omega) hW ha0 (by rw [(jI_inj.mp (he3.eq.trans rfl) : y3 = 3)]; exact hbad)) (by omega) (Nat.zero_le _) (Nat.zero_le _) (Nat.le_of_ble_eq_true rfl) (fun r4 V4 h4 => ?_)
  obtain ⟨rfl, hE4⟩ := h4
  have hE4 := hE4.symm
  subst hE4
  · refine J_astore_nN dX6_rings_7 rfl (by decide) ?_
    refine J_aload_nN dX6_rings_8 rfl ?_
    refine J_ifnonnullN dX6_rings_9 ?_
    refine Jz_bipush (-2) dX6_rings_12 (by decide) (fun y12 he12 => ?_)
    exact J_ret (r := some (.int _)) dX6_rings_14 ⟨rfl, _, rfl, rfl⟩ (⟨⟨_, rfl, (j_rng _).1, (j_rng _).2, (by (try simp only [he12.eq, true_and, and_true]) <;> omega)⟩, rfl⟩)
set_option maxRecDepth 100000 in
set_option maxHeartbeats 8000000 in
theorem w_X6_rings_zold {tS : jTS} (d : Nat) (V0 : jH) (a0 : Nat) (x1 : Int32) (x2 : Int32) (fs : List Value) (tl : Nat) (f : Nat → Option Nat) (j : Nat) (A : Nat → jad) (t : Nat) (hd : 28 ≤ d) (hW : WT V0) (ha0 : jis V0 (.inr 4) a0) (hx : V0 a0 = some (.inr (4, fs))) (h5 : fs[5]? = some (.ref tl)) (htl : V0 tl = some (.inl (5, 4, .inr (.inr (.inr (.inr f)))))) (hg : x1 = nI j) (hj : j < 4) (hb1 : ¬ x1 < 0) (hb2 : ¬ Int32.ofNat 4 ≤ x1) (hb3 : ¬ x2 < 3) (hb4 : x2 ≤ 20) (hf : f j = some t) (hty4 : ∀ j : Nat, j < 4 → f j = none ∨ ∃ t : Nat, f j = some t ∧ jty V0 t (A j) (j : Int)) (hA5 : ∀ i j : Nat, i < 4 → j < 4 → i ≠ j → f i ≠ none → f j ≠ none → jsp (A i) (A j)) (hp0 : 3 ≤ x2.toInt) (hp1 : x2.toInt ≤ 20) : jTot tS mX6_rings d [.ref a0, .int x1, .int x2] V0 0 0 (fun r V => (jPost [.inr 2, .inl 1, .inl 2, .inl 8, .inl 37, .inl 38] V0 (fun r _ => ∃ y : Int32, r = some (.int y) ∧ ((-2147483648) ≤ y.toInt) ∧ (y.toInt ≤ 2147483647) ∧ ((jTT (j : Int) (x2.toInt - 1).toNat jL0 ≤ 600000 ∧ y = (jrq (j : Int) (x2.toInt - 1).toNat).2.2.1) ∨ (600000 < jTT (j : Int) (x2.toInt - 1).toNat jL0 ∧ y.toInt = -5)))) r V ∧ jTL V a0) := by
  refine jTot.of_J [some (.ref a0), some (.int x1), some (.int x2), none] moX6_rings (Nat.le_of_ble_eq_true rfl) rfl ?_
  have hrx1 := j_rng x1
  have hrx2 := j_rng x2
  have he : jeff [.inr 2, .inl 1, .inl 2, .inl 8, .inl 37, .inl 38] V0 V0 := jeff.refl _ _
  have hb30 := hb3
  have hKx : jokO V0 (jFs 4) fs := hW _ _ id hx
  have htlk : jis V0 (.inl 5) tl := ⟨_, htl, rfl⟩
  have hN4 : (4 : Nat) < 2 ^ 31 := by decide
  have hvt : ∀ (j b : Nat), j < 4 → f j = some b → jis V0 (.inr 2) b := by
    obtain ⟨n9, f9, h91, h92, h93, h94⟩ := WT_arrR hW id rfl htlk
    cases htl.symm.trans h91
    exact h94
  have hjj : ∀ j2 : Nat, x1 = nI j2 → j2 < 4 → j2 = j := fun j2 h1 h2 => by
    have h3 : x1.toNatClampNeg = j2 := by rw [h1]; exact nI_clamp (by omega)
    have h4 : x1.toNatClampNeg = j := by rw [hg]; exact nI_clamp (by omega)
    omega
  clear hN4
  have hx0 := hx
  have h50 := h5
  have htl0 := htl
  have hgj : x1.toInt = (j : Int) := by rw [hg]; exact nI_toInt (by omega)
  have ho : ∀ j2, x1 = nI j2 → j2 < 4 → ∃ t2, f j2 = some t2 := fun j2 h1 h2 => ⟨t, by rw [hjj j2 h1 h2]; exact hf⟩
  have hty : jty V0 t (A j) (j : Int) := (hty4 j hj).elim (fun q => by rw [q] at hf; cases hf) (fun ⟨t2, q1, q2⟩ => by cases q1.symm.trans hf; exact q2)
  obtain ⟨gv, R, sd, cd, tg, sp, ln, TK, WC, SQ, RC, BC, ⟨e1, e2, e3, e4⟩, ⟨⟨ts, hT, hF0⟩, i1, i2, i3, i4, i5⟩, ⟨r3, r4, r5, r6, r7⟩, ⟨d3, d4, d5, d6, d7⟩, htk, htal⟩ := id hty
  rw [← e1] at e2 e3 e4 htk htal
  have hF1 := i1.get hT
  have hF2 := i2.get hT
  have hF11 := i3.get hT
  have hF12 := i4.get hT
  have hF13 := i5.get hT
  have hF3 := r3.get hT
  have hF4 := r4.get hT
  have hF5 := r5.get hT
  have hF6 := r6.get hT
  have hF7 := r7.get hT
  have hbt : jis V0 (.inr 2) t := ⟨_, hT, rfl⟩
  have hKt : jokO V0 (jFs 2) ts := hW _ _ id hT
  have hbq3 : jis V0 (.inl 2) _ := ⟨_, d3, rfl⟩
  have hbq4 : jis V0 (.inl 8) _ := ⟨_, d4, rfl⟩
  have hbq5 : jis V0 (.inl 1) _ := ⟨_, d5, rfl⟩
  have hbq6 : jis V0 (.inl 37) _ := ⟨_, d6, rfl⟩
  have hbq7 : jis V0 (.inl 38) _ := ⟨_, d7, rfl⟩
  have hgq0 : 0 ≤ gv.toInt := by omega
  have hgq3 : gv.toInt ≤ 3 := by omega
  refine J_aload_n dX6_rings_0 rfl ?_
  refine J_iload_n dX6_rings_1 rfl ?_
  refine J_iload_n dX6_rings_2 rfl ?_
  refine Jz_iconst 3 dX6_rings_3 (by decide) (fun y3 he3 => ?_)
  refine Jw_callV3 (q9 := (RX6, TX6, 7)) moX6_tallyFor jw_ml_X6_149 jw_im_X6_tallyFor jw_se_X6_tallyFor ha0 rfl rfl dX6_rings_4 (w_X6_tallyFor_old (d - 1) _ _ _ _ _ fs tl f (by omega) hW ha0 hx h5 htl ho hb1 hb2 (by rw [(jI_inj.mp (he3.eq.trans rfl) : y3 = 3)]; exact hb30) hb4) (by omega) (Nat.zero_le _) (Nat.zero_le _) (Nat.le_of_ble_eq_true rfl) (fun r4 V4 h4 => ?_)
  obtain ⟨hr4, hE4⟩ := h4
  have hE4 := hE4.symm
  subst hE4
  obtain ⟨j2, t2, hj2, hg2, ht2, rfl⟩ := hr4
  · have hj3 := (hjj j2 hg2 hj2).symm
    subst hj3
    have ht3 := Option.some.inj (hf.symm.trans ht2)
    subst ht3
    refine J_astore_n dX6_rings_7 rfl (by decide) ?_
    refine J_aload_n dX6_rings_8 rfl ?_
    refine J_ifnonnull (tgt := 15) dX6_rings_9 (by decide) ?_
    refine J_aload_n dX6_rings_15 rfl ?_
    refine J_iload_n dX6_rings_16 rfl ?_
    refine Jz_iconst 1 dX6_rings_17 (by decide) (fun y17 he17 => ?_)
    refine Jz_isub jEq.rf he17 dX6_rings_18 (by omega) (by omega) (fun y18 he18 => ?_)
    refine Jw_callV1 (q9 := (RX4, TX4, 14)) moX4_holds jw_ml_X6_153 jw_im_X4_holds jw_se_X4_holds hbt rfl rfl dX6_rings_19 (w_X4_holds_z (d - 1) _ t y18 gv R sd cd tg sp (A j).1 (A j).2.1 (A j).2.2.1 (A j).2.2.2.1 (A j).2.2.2.2 ln TK WC SQ RC BC (by omega) hW  hbt ⟨_, hT, hF0⟩ ⟨_, hT, hF1⟩ ⟨_, hT, hF2⟩ ⟨_, hT, hF11⟩ ⟨_, hT, hF12⟩ ⟨_, hT, hF13⟩ ⟨_, hT, hF3⟩ ⟨_, hT, hF4⟩ ⟨_, hT, hF5⟩ ⟨_, hT, hF6⟩ ⟨_, hT, hF7⟩ d3 d4 d5 d6 d7 hgq0 hgq3 e2 e3 e4 (by rw [he18.eq]; omega) (by rw [he18.eq]; omega) htk htal) (by omega) (Nat.zero_le _) (Nat.zero_le _) (Nat.le_of_ble_eq_true rfl) (fun r19 V19 h19 => ?_)
    obtain ⟨h19, hX19_0, hX19_1, hX19_2, hX19_3, ⟨fv19_0, hfv19_0, hfp19_0⟩, ⟨fv19_1, hfv19_1, hfp19_1⟩, ⟨fv19_2, hfv19_2, hfp19_2⟩⟩ := h19
    obtain ⟨hW, hx19, hr19⟩ := h19
    have he := he.trans (hx19.sub (jsub_of rfl))
    have ha0 := ha0.mono hx19.1
    have htlk := htlk.mono hx19.1
    have hbt := hbt.mono hx19.1
    have hbq3 := hbq3.mono hx19.1
    have hbq4 := hbq4.mono hx19.1
    have hbq5 := hbq5.mono hx19.1
    have hbq6 := hbq6.mono hx19.1
    have hbq7 := hbq7.mono hx19.1
    have hx := hx19.2 _ _ hx (jnot_of rfl)
    have hKx := hKx.mono hx19.1
    obtain ⟨fs19t, hOfs19t, hRfs19t⟩ := hx19.1.keep hT
    have hKfs19t : jokO _ (jFs 2) fs19t := hW _ _ id hOfs19t
    have hFfs19t_3 := hRfs19t _ _ hF3
    have hFfs19t_4 := hRfs19t _ _ hF4
    have hFfs19t_5 := hRfs19t _ _ hF5
    have hFfs19t_6 := hRfs19t _ _ hF6
    have hFfs19t_7 := hRfs19t _ _ hF7
    obtain ⟨y19, rfl, hl19, hh19, hP19_0⟩ := hr19
    try simp only [he18.eq] at hP19_0
    have hFv19_0 := hfv19_0.get hOfs19t
    try simp only [he18.eq] at hfp19_0
    have hsb19_0 : gv = fv19_0 := (jI_inj.mp hfp19_0).symm
    subst hsb19_0
    have hFv19_1 := hfv19_1.get hOfs19t
    try simp only [he18.eq] at hfp19_1
    have hsb19_1 : R = fv19_1 := (jI_inj.mp hfp19_1).symm
    subst hsb19_1
    have hFv19_2 := hfv19_2.get hOfs19t
    try simp only [he18.eq] at hfp19_2
    have hsb19_2 : sd = fv19_2 := (jI_inj.mp hfp19_2).symm
    subst hsb19_2
    clear hX19_0
    rw [e1] at hP19_0 hX19_1 hX19_2
    simp only [he18.eq] at hX19_2
    obtain ⟨WC19, SQ19, RC19, BC19, ⟨a4, a5, a6, a7⟩, hhas⟩ := hX19_2
    have hH9 := jHid.mk hhas
    clear hhas
    have hHP := jHid.mk hP19_0
    clear hP19_0
    have hjt : jTL V19 a0 := jTL.upd hx0 h50 htl0 hty4 hA5 he (jnot_of rfl) hj hf hty hX19_1 (fun b hb e q _ => (hX19_3 b hb).trans q)
    obtain ⟨hN_WC19, hv_WC19⟩ := WT_rngI (r := ((-2147483648), 2147483647)) hW id rfl a4
    clear hN_WC19
    obtain ⟨hN_RC19, hv_RC19⟩ := WT_rngI (r := ((-2147483648), 2147483647)) hW id rfl a6
    clear hN_RC19
    obtain ⟨hN_BC19, hv_BC19⟩ := WT_rngI (r := ((-2147483648), 2147483647)) hW id rfl a7
    clear hN_BC19
    refine Jz_if_eq (tgt := 38) jEq.rf dX6_rings_22 (by decide) (fun c22 => ?_) (fun c22 => ?_)
    · refine Jz_bipush (-5) dX6_rings_38 (by decide) (fun y38 he38 => ?_)
      exact J_ret (r := some (.int _)) dX6_rings_40 ⟨rfl, _, rfl, rfl⟩ (⟨⟨hW, he, ⟨_, rfl, (j_rng _).1, (j_rng _).2, (Or.inr ⟨hHP.o.elim (fun q => absurd q.1 (by omega)) (fun q => q.2), he38.eq⟩)⟩⟩, hjt⟩)
    · have hle := jHid.mk (hHP.o.elim (fun q => q.2) (fun q => absurd q.1 (by omega)))
      have hh9 := jHid.mk (hH9.o hle.o)
      refine J_aload_n dX6_rings_25 rfl ?_
      refine J_get jf_X6_170 dX6_rings_26 hOfs19t hFfs19t_6 ?_
      refine J_iload_n dX6_rings_29 rfl ?_
      refine Jz_iconst 1 dX6_rings_30 (by decide) (fun y30 he30 => ?_)
      refine Jz_isub jEq.rf he30 dX6_rings_31 (by omega) (by omega) (fun y31 he31 => ?_)
      refine J_callS2 moX6_cell jw_ml_X6_110 jw_st_X6_cell dX6_rings_32 (w_X6_cell_x (d - 1) _ (A j).2.2.2.1 y31 a6 (WT_rngI (r := (-2147483648, 2147483647)) hW id rfl a6).1 rfl (by (try simp only [he31.eq, true_and, and_true]) <;> omega) (by (try simp only [he31.eq, true_and, and_true]) <;> omega)) (by omega) (Nat.zero_le _) (Nat.zero_le _) (Nat.le_of_ble_eq_true rfl) (fun r32 V32 h32 => ?_)
      obtain ⟨⟨y32, rfl, hf32⟩, hE32⟩ := h32
      have hE32 := hE32.symm
      subst hE32
      have hz32 : jEq y32.toInt (RC19 (x2.toInt - 1).toNat).toInt := by rw [← hf32, he31.eq]; rfl
      clear hf32
      · refine J_goto (tgt := 40) dX6_rings_35 (by decide) ?_
        exact J_ret (r := some (.int _)) dX6_rings_40 ⟨rfl, _, rfl, rfl⟩ (⟨⟨hW, he, ⟨_, rfl, (j_rng _).1, (j_rng _).2, (Or.inl ⟨hle.o, ((jI_inj.mp hz32.eq).trans (hh9.o.2.2.1 (by omega)))⟩)⟩⟩, hjt⟩)
set_option maxRecDepth 100000 in
set_option maxHeartbeats 8000000 in
theorem w_X6_rings_znew {tS : jTS} (d : Nat) (V0 : jH) (a0 : Nat) (x1 : Int32) (x2 : Int32) (fs : List Value) (tl : Nat) (f : Nat → Option Nat) (j : Nat) (A : Nat → jad) (hd : 28 ≤ d) (hW : WT V0) (ha0 : jis V0 (.inr 4) a0) (hx : V0 a0 = some (.inr (4, fs))) (h5 : fs[5]? = some (.ref tl)) (htl : V0 tl = some (.inl (5, 4, .inr (.inr (.inr (.inr f)))))) (hg : x1 = nI j) (hj : j < 4) (hb1 : ¬ x1 < 0) (hb2 : ¬ Int32.ofNat 4 ≤ x1) (hb3 : ¬ x2 < 3) (hb4 : x2 ≤ 20) (hf : f j = none) (hty4 : ∀ j : Nat, j < 4 → f j = none ∨ ∃ t : Nat, f j = some t ∧ jty V0 t (A j) (j : Int)) (hA5 : ∀ i j : Nat, i < 4 → j < 4 → i ≠ j → f i ≠ none → f j ≠ none → jsp (A i) (A j)) (hp0 : 3 ≤ x2.toInt) (hp1 : x2.toInt ≤ 20) : jTot tS mX6_rings d [.ref a0, .int x1, .int x2] V0 8 15738 (fun r V => (jPost [.inl 5, .inr 2, .inl 1, .inl 2, .inl 8, .inl 37, .inl 38] V0 (fun r _ => ∃ y : Int32, r = some (.int y) ∧ ((-2147483648) ≤ y.toInt) ∧ (y.toInt ≤ 2147483647) ∧ ((jTT (j : Int) (x2.toInt - 1).toNat jL0 ≤ 600000 ∧ y = (jrq (j : Int) (x2.toInt - 1).toNat).2.2.1) ∨ (600000 < jTT (j : Int) (x2.toInt - 1).toNat jL0 ∧ y.toInt = -5)))) r V ∧ jTL V a0 ∧ (∃ f2 : Nat → Option Nat, V tl = some (.inl (5, 4, .inr (.inr (.inr (.inr f2))))) ∧ (∀ i, i ≠ j → f2 i = f i) ∧ ∃ t, f2 j = some t) ∧ (jTF V0 a0 → jTF V a0)) := by
  refine jTot.of_J [some (.ref a0), some (.int x1), some (.int x2), none] moX6_rings (Nat.le_of_ble_eq_true rfl) rfl ?_
  have hrx1 := j_rng x1
  have hrx2 := j_rng x2
  have he : jeff [.inl 5, .inr 2, .inl 1, .inl 2, .inl 8, .inl 37, .inl 38] V0 V0 := jeff.refl _ _
  have hb30 := hb3
  have hKx : jokO V0 (jFs 4) fs := hW _ _ id hx
  have htlk : jis V0 (.inl 5) tl := ⟨_, htl, rfl⟩
  have hN4 : (4 : Nat) < 2 ^ 31 := by decide
  have hvt : ∀ (j b : Nat), j < 4 → f j = some b → jis V0 (.inr 2) b := by
    obtain ⟨n9, f9, h91, h92, h93, h94⟩ := WT_arrR hW id rfl htlk
    cases htl.symm.trans h91
    exact h94
  have hjj : ∀ j2 : Nat, x1 = nI j2 → j2 < 4 → j2 = j := fun j2 h1 h2 => by
    have h3 : x1.toNatClampNeg = j2 := by rw [h1]; exact nI_clamp (by omega)
    have h4 : x1.toNatClampNeg = j := by rw [hg]; exact nI_clamp (by omega)
    omega
  clear hN4
  have hx0 := hx
  have h50 := h5
  have htl0 := htl
  have hgj : x1.toInt = (j : Int) := by rw [hg]; exact nI_toInt (by omega)
  refine J_aload_n dX6_rings_0 rfl ?_
  refine J_iload_n dX6_rings_1 rfl ?_
  refine J_iload_n dX6_rings_2 rfl ?_
  refine Jz_iconst 3 dX6_rings_3 (by decide) (fun y3 he3 => ?_)
  refine Jw_callV3 (q9 := (RX6, TX6, 7)) moX6_tallyFor jw_ml_X6_149 jw_im_X6_tallyFor jw_se_X6_tallyFor ha0 rfl rfl dX6_rings_4 (w_X6_tallyFor_newz (d - 1) _ _ _ _ _ fs tl f j (by omega) hW ha0 hx h5 htl hg hj hf hb1 hb2 (by rw [(jI_inj.mp (he3.eq.trans rfl) : y3 = 3)]; exact hb30) hb4) (by omega) (by omega) (by omega) (Nat.le_of_ble_eq_true rfl) (fun r4 V4 h4 => ?_)
  obtain ⟨t, rfl, hW, hx4, hbt0, htl2, hjm⟩ := h4
  have he := he.trans (hx4.sub (jsub_of rfl))
  have ha0 := ha0.mono hx4.1
  have htlk := htlk.mono hx4.1
  have hx := hx4.2 _ _ hx (jnot_of rfl)
  have hKx := hKx.mono hx4.1
  have htlk : jis V4 (.inl 5) tl := ⟨_, htl2, rfl⟩
  obtain ⟨P, hnew, hty, hnf, hfa⟩ := hjm
  have htf : jHid (jTF V0 a0 → jTF V4 a0) := jHid.mk (fun q => jTF.fresh q hx0 h50 htl0 hx4.1 htl2 hf (va_up_self _ _ _) (fun i hi => va_up_ne _ _ hi) hnf hfa)
  obtain ⟨gv, R, sd, cd, tg, sp, ln, TK, WC, SQ, RC, BC, ⟨e1, e2, e3, e4⟩, ⟨⟨ts, hT, hF0⟩, i1, i2, i3, i4, i5⟩, ⟨r3, r4, r5, r6, r7⟩, ⟨d3, d4, d5, d6, d7⟩, htk, htal⟩ := id hty
  rw [← e1] at e2 e3 e4 htk htal
  have hF1 := i1.get hT
  have hF2 := i2.get hT
  have hF11 := i3.get hT
  have hF12 := i4.get hT
  have hF13 := i5.get hT
  have hF3 := r3.get hT
  have hF4 := r4.get hT
  have hF5 := r5.get hT
  have hF6 := r6.get hT
  have hF7 := r7.get hT
  have hbt : jis V4 (.inr 2) t := ⟨_, hT, rfl⟩
  have hKt : jokO V4 (jFs 2) ts := hW _ _ id hT
  have hbq3 : jis V4 (.inl 2) _ := ⟨_, d3, rfl⟩
  have hbq4 : jis V4 (.inl 8) _ := ⟨_, d4, rfl⟩
  have hbq5 : jis V4 (.inl 1) _ := ⟨_, d5, rfl⟩
  have hbq6 : jis V4 (.inl 37) _ := ⟨_, d6, rfl⟩
  have hbq7 : jis V4 (.inl 38) _ := ⟨_, d7, rfl⟩
  have hgq0 : 0 ≤ gv.toInt := by omega
  have hgq3 : gv.toInt ≤ 3 := by omega
  · refine J_astore_n dX6_rings_7 rfl (by decide) ?_
    refine J_aload_n dX6_rings_8 rfl ?_
    refine J_ifnonnull (tgt := 15) dX6_rings_9 (by decide) ?_
    refine J_aload_n dX6_rings_15 rfl ?_
    refine J_iload_n dX6_rings_16 rfl ?_
    refine Jz_iconst 1 dX6_rings_17 (by decide) (fun y17 he17 => ?_)
    refine Jz_isub jEq.rf he17 dX6_rings_18 (by omega) (by omega) (fun y18 he18 => ?_)
    refine Jw_callV1 (q9 := (RX4, TX4, 14)) moX4_holds jw_ml_X6_153 jw_im_X4_holds jw_se_X4_holds hbt rfl rfl dX6_rings_19 (w_X4_holds_z (d - 1) _ t y18 gv R sd cd tg sp P.1 P.2.1 P.2.2.1 P.2.2.2.1 P.2.2.2.2 ln TK WC SQ RC BC (by omega) hW  hbt ⟨_, hT, hF0⟩ ⟨_, hT, hF1⟩ ⟨_, hT, hF2⟩ ⟨_, hT, hF11⟩ ⟨_, hT, hF12⟩ ⟨_, hT, hF13⟩ ⟨_, hT, hF3⟩ ⟨_, hT, hF4⟩ ⟨_, hT, hF5⟩ ⟨_, hT, hF6⟩ ⟨_, hT, hF7⟩ d3 d4 d5 d6 d7 hgq0 hgq3 e2 e3 e4 (by rw [he18.eq]; omega) (by rw [he18.eq]; omega) htk htal) (by omega) (Nat.zero_le _) (Nat.zero_le _) (Nat.le_of_ble_eq_true rfl) (fun r19 V19 h19 => ?_)
    obtain ⟨h19, hX19_0, hX19_1, hX19_2, hX19_3, ⟨fv19_0, hfv19_0, hfp19_0⟩, ⟨fv19_1, hfv19_1, hfp19_1⟩, ⟨fv19_2, hfv19_2, hfp19_2⟩⟩ := h19
    obtain ⟨hW, hx19, hr19⟩ := h19
    have he := he.trans (hx19.sub (jsub_of rfl))
    have ha0 := ha0.mono hx19.1
    have htlk := htlk.mono hx19.1
    have hbt := hbt.mono hx19.1
    have hbq3 := hbq3.mono hx19.1
    have hbq4 := hbq4.mono hx19.1
    have hbq5 := hbq5.mono hx19.1
    have hbq6 := hbq6.mono hx19.1
    have hbq7 := hbq7.mono hx19.1
    have hx := hx19.2 _ _ hx (jnot_of rfl)
    have hKx := hKx.mono hx19.1
    obtain ⟨fs19t, hOfs19t, hRfs19t⟩ := hx19.1.keep hT
    have hKfs19t : jokO _ (jFs 2) fs19t := hW _ _ id hOfs19t
    have hFfs19t_3 := hRfs19t _ _ hF3
    have hFfs19t_4 := hRfs19t _ _ hF4
    have hFfs19t_5 := hRfs19t _ _ hF5
    have hFfs19t_6 := hRfs19t _ _ hF6
    have hFfs19t_7 := hRfs19t _ _ hF7
    have htl2 := hx19.2 _ _ htl2 (jnot_of rfl)
    obtain ⟨y19, rfl, hl19, hh19, hP19_0⟩ := hr19
    try simp only [he18.eq] at hP19_0
    have hFv19_0 := hfv19_0.get hOfs19t
    try simp only [he18.eq] at hfp19_0
    have hsb19_0 : gv = fv19_0 := (jI_inj.mp hfp19_0).symm
    subst hsb19_0
    have hFv19_1 := hfv19_1.get hOfs19t
    try simp only [he18.eq] at hfp19_1
    have hsb19_1 : R = fv19_1 := (jI_inj.mp hfp19_1).symm
    subst hsb19_1
    have hFv19_2 := hfv19_2.get hOfs19t
    try simp only [he18.eq] at hfp19_2
    have hsb19_2 : sd = fv19_2 := (jI_inj.mp hfp19_2).symm
    subst hsb19_2
    clear hX19_0
    rw [e1] at hP19_0 hX19_1 hX19_2
    simp only [he18.eq] at hX19_2
    obtain ⟨WC19, SQ19, RC19, BC19, ⟨a4, a5, a6, a7⟩, hhas⟩ := hX19_2
    have hH9 := jHid.mk hhas
    clear hhas
    have hHP := jHid.mk hP19_0
    clear hP19_0
    have hjt : jTL V19 a0 := jTL.fresh hx0 h50 hty4 hA5 he.1 htl2 hj hf (va_up_self _ _ _) (fun i hi => va_up_ne _ _ hi) hX19_1 hnew (jTL.frs ⟨_, htl0, rfl⟩ hnew hfa hX19_3)
    obtain ⟨hN_WC19, hv_WC19⟩ := WT_rngI (r := ((-2147483648), 2147483647)) hW id rfl a4
    clear hN_WC19
    obtain ⟨hN_RC19, hv_RC19⟩ := WT_rngI (r := ((-2147483648), 2147483647)) hW id rfl a6
    clear hN_RC19
    obtain ⟨hN_BC19, hv_BC19⟩ := WT_rngI (r := ((-2147483648), 2147483647)) hW id rfl a7
    clear hN_BC19
    refine Jz_if_eq (tgt := 38) jEq.rf dX6_rings_22 (by decide) (fun c22 => ?_) (fun c22 => ?_)
    · refine Jz_bipush (-5) dX6_rings_38 (by decide) (fun y38 he38 => ?_)
      exact J_ret (r := some (.int _)) dX6_rings_40 ⟨rfl, _, rfl, rfl⟩ (⟨⟨hW, he, ⟨_, rfl, (j_rng _).1, (j_rng _).2, (Or.inr ⟨hHP.o.elim (fun q => absurd q.1 (by omega)) (fun q => q.2), he38.eq⟩)⟩⟩, hjt, ⟨_, htl2, fun i hi => va_up_ne _ _ hi, _, va_up_self _ _ _⟩, (fun q => (htf.o q).keep hx19 (jdis_of rfl))⟩)
    · have hle := jHid.mk (hHP.o.elim (fun q => q.2) (fun q => absurd q.1 (by omega)))
      have hh9 := jHid.mk (hH9.o hle.o)
      refine J_aload_n dX6_rings_25 rfl ?_
      refine J_get jf_X6_170 dX6_rings_26 hOfs19t hFfs19t_6 ?_
      refine J_iload_n dX6_rings_29 rfl ?_
      refine Jz_iconst 1 dX6_rings_30 (by decide) (fun y30 he30 => ?_)
      refine Jz_isub jEq.rf he30 dX6_rings_31 (by omega) (by omega) (fun y31 he31 => ?_)
      refine J_callS2 moX6_cell jw_ml_X6_110 jw_st_X6_cell dX6_rings_32 (w_X6_cell_x (d - 1) _ P.2.2.2.1 y31 a6 (WT_rngI (r := (-2147483648, 2147483647)) hW id rfl a6).1 rfl (by (try simp only [he31.eq, true_and, and_true]) <;> omega) (by (try simp only [he31.eq, true_and, and_true]) <;> omega)) (by omega) (Nat.zero_le _) (Nat.zero_le _) (Nat.le_of_ble_eq_true rfl) (fun r32 V32 h32 => ?_)
      obtain ⟨⟨y32, rfl, hf32⟩, hE32⟩ := h32
      have hE32 := hE32.symm
      subst hE32
      have hz32 : jEq y32.toInt (RC19 (x2.toInt - 1).toNat).toInt := by rw [← hf32, he31.eq]; rfl
      clear hf32
      · refine J_goto (tgt := 40) dX6_rings_35 (by decide) ?_
        exact J_ret (r := some (.int _)) dX6_rings_40 ⟨rfl, _, rfl, rfl⟩ (⟨⟨hW, he, ⟨_, rfl, (j_rng _).1, (j_rng _).2, (Or.inl ⟨hle.o, ((jI_inj.mp hz32.eq).trans (hh9.o.2.2.1 (by omega)))⟩)⟩⟩, hjt, ⟨_, htl2, fun i hi => va_up_ne _ _ hi, _, va_up_self _ _ _⟩, (fun q => (htf.o q).keep hx19 (jdis_of rfl))⟩)
set_option maxRecDepth 100000 in
set_option maxHeartbeats 8000000 in
theorem w_X6_bridges_zbad {tS : jTS} (d : Nat) (V0 : jH) (a0 : Nat) (x1 : Int32) (x2 : Int32) (hd : 28 ≤ d) (hW : WT V0) (ha0 : jis V0 (.inr 4) a0) (hbad : x1 < 0 ∨ Int32.ofNat 4 ≤ x1 ∨ x2 < 1 ∨ ¬ x2 ≤ 20) : jTot tS mX6_bridges d [.ref a0, .int x1, .int x2] V0 0 0 (fun r V => (fun r _ => ∃ y : Int32, r = some (.int y) ∧ ((-2147483648) ≤ y.toInt) ∧ (y.toInt ≤ 2147483647) ∧ (y.toInt = -2)) r V ∧ V = V0) := by
  refine jTot.of_J [some (.ref a0), some (.int x1), some (.int x2), none] moX6_bridges (Nat.le_of_ble_eq_true rfl) rfl ?_
  have hrx1 := j_rng x1
  have hrx2 := j_rng x2
  have he : jeff [] V0 V0 := jeff.refl _ _
  refine J_aload_n dX6_bridges_0 rfl ?_
  refine J_iload_n dX6_bridges_1 rfl ?_
  refine J_iload_n dX6_bridges_2 rfl ?_
  refine Jz_iconst 1 dX6_bridges_3 (by decide) (fun y3 he3 => ?_)
  refine Jw_callV3 (q9 := (RX6, TX6, 7)) moX6_tallyFor jw_ml_X6_149 jw_im_X6_tallyFor jw_se_X6_tallyFor ha0 rfl rfl dX6_bridges_4 (w_X6_tallyFor_bad (d - 1) _ _ _ _ _ (by omega) hW ha0 (by rw [(jI_inj.mp (he3.eq.trans rfl) : y3 = 1)]; exact hbad)) (by omega) (Nat.zero_le _) (Nat.zero_le _) (Nat.le_of_ble_eq_true rfl) (fun r4 V4 h4 => ?_)
  obtain ⟨rfl, hE4⟩ := h4
  have hE4 := hE4.symm
  subst hE4
  · refine J_astore_nN dX6_bridges_7 rfl (by decide) ?_
    refine J_aload_nN dX6_bridges_8 rfl ?_
    refine J_ifnonnullN dX6_bridges_9 ?_
    refine Jz_bipush (-2) dX6_bridges_12 (by decide) (fun y12 he12 => ?_)
    exact J_ret (r := some (.int _)) dX6_bridges_14 ⟨rfl, _, rfl, rfl⟩ (⟨⟨_, rfl, (j_rng _).1, (j_rng _).2, (by (try simp only [he12.eq, true_and, and_true]) <;> omega)⟩, rfl⟩)
set_option maxRecDepth 100000 in
set_option maxHeartbeats 8000000 in
theorem w_X6_bridges_zold {tS : jTS} (d : Nat) (V0 : jH) (a0 : Nat) (x1 : Int32) (x2 : Int32) (fs : List Value) (tl : Nat) (f : Nat → Option Nat) (j : Nat) (A : Nat → jad) (t : Nat) (hd : 28 ≤ d) (hW : WT V0) (ha0 : jis V0 (.inr 4) a0) (hx : V0 a0 = some (.inr (4, fs))) (h5 : fs[5]? = some (.ref tl)) (htl : V0 tl = some (.inl (5, 4, .inr (.inr (.inr (.inr f)))))) (hg : x1 = nI j) (hj : j < 4) (hb1 : ¬ x1 < 0) (hb2 : ¬ Int32.ofNat 4 ≤ x1) (hb3 : ¬ x2 < 1) (hb4 : x2 ≤ 20) (hf : f j = some t) (hty4 : ∀ j : Nat, j < 4 → f j = none ∨ ∃ t : Nat, f j = some t ∧ jty V0 t (A j) (j : Int)) (hA5 : ∀ i j : Nat, i < 4 → j < 4 → i ≠ j → f i ≠ none → f j ≠ none → jsp (A i) (A j)) (hp0 : 1 ≤ x2.toInt) (hp1 : x2.toInt ≤ 20) : jTot tS mX6_bridges d [.ref a0, .int x1, .int x2] V0 0 0 (fun r V => (jPost [.inr 2, .inl 1, .inl 2, .inl 8, .inl 37, .inl 38] V0 (fun r _ => ∃ y : Int32, r = some (.int y) ∧ ((-2147483648) ≤ y.toInt) ∧ (y.toInt ≤ 2147483647) ∧ ((jTT (j : Int) x2.toInt.toNat jL0 ≤ 600000 ∧ y = (jrq (j : Int) x2.toInt.toNat).2.2.2) ∨ (600000 < jTT (j : Int) x2.toInt.toNat jL0 ∧ y.toInt = -5)))) r V ∧ jTL V a0) := by
  refine jTot.of_J [some (.ref a0), some (.int x1), some (.int x2), none] moX6_bridges (Nat.le_of_ble_eq_true rfl) rfl ?_
  have hrx1 := j_rng x1
  have hrx2 := j_rng x2
  have he : jeff [.inr 2, .inl 1, .inl 2, .inl 8, .inl 37, .inl 38] V0 V0 := jeff.refl _ _
  have hb30 := hb3
  have hKx : jokO V0 (jFs 4) fs := hW _ _ id hx
  have htlk : jis V0 (.inl 5) tl := ⟨_, htl, rfl⟩
  have hN4 : (4 : Nat) < 2 ^ 31 := by decide
  have hvt : ∀ (j b : Nat), j < 4 → f j = some b → jis V0 (.inr 2) b := by
    obtain ⟨n9, f9, h91, h92, h93, h94⟩ := WT_arrR hW id rfl htlk
    cases htl.symm.trans h91
    exact h94
  have hjj : ∀ j2 : Nat, x1 = nI j2 → j2 < 4 → j2 = j := fun j2 h1 h2 => by
    have h3 : x1.toNatClampNeg = j2 := by rw [h1]; exact nI_clamp (by omega)
    have h4 : x1.toNatClampNeg = j := by rw [hg]; exact nI_clamp (by omega)
    omega
  clear hN4
  have hx0 := hx
  have h50 := h5
  have htl0 := htl
  have hgj : x1.toInt = (j : Int) := by rw [hg]; exact nI_toInt (by omega)
  have ho : ∀ j2, x1 = nI j2 → j2 < 4 → ∃ t2, f j2 = some t2 := fun j2 h1 h2 => ⟨t, by rw [hjj j2 h1 h2]; exact hf⟩
  have hty : jty V0 t (A j) (j : Int) := (hty4 j hj).elim (fun q => by rw [q] at hf; cases hf) (fun ⟨t2, q1, q2⟩ => by cases q1.symm.trans hf; exact q2)
  obtain ⟨gv, R, sd, cd, tg, sp, ln, TK, WC, SQ, RC, BC, ⟨e1, e2, e3, e4⟩, ⟨⟨ts, hT, hF0⟩, i1, i2, i3, i4, i5⟩, ⟨r3, r4, r5, r6, r7⟩, ⟨d3, d4, d5, d6, d7⟩, htk, htal⟩ := id hty
  rw [← e1] at e2 e3 e4 htk htal
  have hF1 := i1.get hT
  have hF2 := i2.get hT
  have hF11 := i3.get hT
  have hF12 := i4.get hT
  have hF13 := i5.get hT
  have hF3 := r3.get hT
  have hF4 := r4.get hT
  have hF5 := r5.get hT
  have hF6 := r6.get hT
  have hF7 := r7.get hT
  have hbt : jis V0 (.inr 2) t := ⟨_, hT, rfl⟩
  have hKt : jokO V0 (jFs 2) ts := hW _ _ id hT
  have hbq3 : jis V0 (.inl 2) _ := ⟨_, d3, rfl⟩
  have hbq4 : jis V0 (.inl 8) _ := ⟨_, d4, rfl⟩
  have hbq5 : jis V0 (.inl 1) _ := ⟨_, d5, rfl⟩
  have hbq6 : jis V0 (.inl 37) _ := ⟨_, d6, rfl⟩
  have hbq7 : jis V0 (.inl 38) _ := ⟨_, d7, rfl⟩
  have hgq0 : 0 ≤ gv.toInt := by omega
  have hgq3 : gv.toInt ≤ 3 := by omega
  refine J_aload_n dX6_bridges_0 rfl ?_
  refine J_iload_n dX6_bridges_1 rfl ?_
  refine J_iload_n dX6_bridges_2 rfl ?_
  refine Jz_iconst 1 dX6_bridges_3 (by decide) (fun y3 he3 => ?_)
  refine Jw_callV3 (q9 := (RX6, TX6, 7)) moX6_tallyFor jw_ml_X6_149 jw_im_X6_tallyFor jw_se_X6_tallyFor ha0 rfl rfl dX6_bridges_4 (w_X6_tallyFor_old (d - 1) _ _ _ _ _ fs tl f (by omega) hW ha0 hx h5 htl ho hb1 hb2 (by rw [(jI_inj.mp (he3.eq.trans rfl) : y3 = 1)]; exact hb30) hb4) (by omega) (Nat.zero_le _) (Nat.zero_le _) (Nat.le_of_ble_eq_true rfl) (fun r4 V4 h4 => ?_)
  obtain ⟨hr4, hE4⟩ := h4
  have hE4 := hE4.symm
  subst hE4
  obtain ⟨j2, t2, hj2, hg2, ht2, rfl⟩ := hr4
  · have hj3 := (hjj j2 hg2 hj2).symm
    subst hj3
    have ht3 := Option.some.inj (hf.symm.trans ht2)
    subst ht3
    refine J_astore_n dX6_bridges_7 rfl (by decide) ?_
    refine J_aload_n dX6_bridges_8 rfl ?_
    refine J_ifnonnull (tgt := 15) dX6_bridges_9 (by decide) ?_
    refine J_aload_n dX6_bridges_15 rfl ?_
    refine J_iload_n dX6_bridges_16 rfl ?_
    refine Jw_callV1 (q9 := (RX4, TX4, 14)) moX4_holds jw_ml_X6_153 jw_im_X4_holds jw_se_X4_holds hbt rfl rfl dX6_bridges_17 (w_X4_holds_z (d - 1) _ t x2 gv R sd cd tg sp (A j).1 (A j).2.1 (A j).2.2.1 (A j).2.2.2.1 (A j).2.2.2.2 ln TK WC SQ RC BC (by omega) hW  hbt ⟨_, hT, hF0⟩ ⟨_, hT, hF1⟩ ⟨_, hT, hF2⟩ ⟨_, hT, hF11⟩ ⟨_, hT, hF12⟩ ⟨_, hT, hF13⟩ ⟨_, hT, hF3⟩ ⟨_, hT, hF4⟩ ⟨_, hT, hF5⟩ ⟨_, hT, hF6⟩ ⟨_, hT, hF7⟩ d3 d4 d5 d6 d7 hgq0 hgq3 e2 e3 e4 (by omega) (by omega) htk htal) (by omega) (Nat.zero_le _) (Nat.zero_le _) (Nat.le_of_ble_eq_true rfl) (fun r17 V17 h17 => ?_)
    obtain ⟨h17, hX17_0, hX17_1, hX17_2, hX17_3, ⟨fv17_0, hfv17_0, hfp17_0⟩, ⟨fv17_1, hfv17_1, hfp17_1⟩, ⟨fv17_2, hfv17_2, hfp17_2⟩⟩ := h17
    obtain ⟨hW, hx17, hr17⟩ := h17
    have he := he.trans (hx17.sub (jsub_of rfl))
    have ha0 := ha0.mono hx17.1
    have htlk := htlk.mono hx17.1
    have hbt := hbt.mono hx17.1
    have hbq3 := hbq3.mono hx17.1
    have hbq4 := hbq4.mono hx17.1
    have hbq5 := hbq5.mono hx17.1
    have hbq6 := hbq6.mono hx17.1
    have hbq7 := hbq7.mono hx17.1
    have hx := hx17.2 _ _ hx (jnot_of rfl)
    have hKx := hKx.mono hx17.1
    obtain ⟨fs17t, hOfs17t, hRfs17t⟩ := hx17.1.keep hT
    have hKfs17t : jokO _ (jFs 2) fs17t := hW _ _ id hOfs17t
    have hFfs17t_3 := hRfs17t _ _ hF3
    have hFfs17t_4 := hRfs17t _ _ hF4
    have hFfs17t_5 := hRfs17t _ _ hF5
    have hFfs17t_6 := hRfs17t _ _ hF6
    have hFfs17t_7 := hRfs17t _ _ hF7
    obtain ⟨y17, rfl, hl17, hh17, hP17_0⟩ := hr17
    have hFv17_0 := hfv17_0.get hOfs17t
    have hsb17_0 : gv = fv17_0 := (jI_inj.mp hfp17_0).symm
    subst hsb17_0
    have hFv17_1 := hfv17_1.get hOfs17t
    have hsb17_1 : R = fv17_1 := (jI_inj.mp hfp17_1).symm
    subst hsb17_1
    have hFv17_2 := hfv17_2.get hOfs17t
    have hsb17_2 : sd = fv17_2 := (jI_inj.mp hfp17_2).symm
    subst hsb17_2
    clear hX17_0
    rw [e1] at hP17_0 hX17_1 hX17_2
    obtain ⟨WC17, SQ17, RC17, BC17, ⟨a4, a5, a6, a7⟩, hhas⟩ := hX17_2
    have hH9 := jHid.mk hhas
    clear hhas
    have hHP := jHid.mk hP17_0
    clear hP17_0
    have hjt : jTL V17 a0 := jTL.upd hx0 h50 htl0 hty4 hA5 he (jnot_of rfl) hj hf hty hX17_1 (fun b hb e q _ => (hX17_3 b hb).trans q)
    obtain ⟨hN_WC17, hv_WC17⟩ := WT_rngI (r := ((-2147483648), 2147483647)) hW id rfl a4
    clear hN_WC17
    obtain ⟨hN_RC17, hv_RC17⟩ := WT_rngI (r := ((-2147483648), 2147483647)) hW id rfl a6
    clear hN_RC17
    obtain ⟨hN_BC17, hv_BC17⟩ := WT_rngI (r := ((-2147483648), 2147483647)) hW id rfl a7
    clear hN_BC17
    refine Jz_if_eq (tgt := 34) jEq.rf dX6_bridges_20 (by decide) (fun c20 => ?_) (fun c20 => ?_)
    · refine Jz_bipush (-5) dX6_bridges_34 (by decide) (fun y34 he34 => ?_)
      exact J_ret (r := some (.int _)) dX6_bridges_36 ⟨rfl, _, rfl, rfl⟩ (⟨⟨hW, he, ⟨_, rfl, (j_rng _).1, (j_rng _).2, (Or.inr ⟨hHP.o.elim (fun q => absurd q.1 (by omega)) (fun q => q.2), he34.eq⟩)⟩⟩, hjt⟩)
    · have hle := jHid.mk (hHP.o.elim (fun q => q.2) (fun q => absurd q.1 (by omega)))
      have hh9 := jHid.mk (hH9.o hle.o)
      refine J_aload_n dX6_bridges_23 rfl ?_
      refine J_get jf_X6_173 dX6_bridges_24 hOfs17t hFfs17t_7 ?_
      refine J_iload_n dX6_bridges_27 rfl ?_
      refine J_callS2 moX6_cell jw_ml_X6_110 jw_st_X6_cell dX6_bridges_28 (w_X6_cell_x (d - 1) _ (A j).2.2.2.2 x2 a7 (WT_rngI (r := (-2147483648, 2147483647)) hW id rfl a7).1 rfl (by omega) (by omega)) (by omega) (Nat.zero_le _) (Nat.zero_le _) (Nat.le_of_ble_eq_true rfl) (fun r28 V28 h28 => ?_)
      obtain ⟨⟨y28, rfl, hf28⟩, hE28⟩ := h28
      have hE28 := hE28.symm
      subst hE28
      have hz28 : jEq y28.toInt (BC17 (x2.toInt).toNat).toInt := by rw [← hf28]; rfl
      clear hf28
      · refine J_goto (tgt := 36) dX6_bridges_31 (by decide) ?_
        exact J_ret (r := some (.int _)) dX6_bridges_36 ⟨rfl, _, rfl, rfl⟩ (⟨⟨hW, he, ⟨_, rfl, (j_rng _).1, (j_rng _).2, (Or.inl ⟨hle.o, ((jI_inj.mp hz28.eq).trans (hh9.o.2.2.2 (by omega)))⟩)⟩⟩, hjt⟩)
set_option maxRecDepth 100000 in
set_option maxHeartbeats 8000000 in
theorem w_X6_bridges_znew {tS : jTS} (d : Nat) (V0 : jH) (a0 : Nat) (x1 : Int32) (x2 : Int32) (fs : List Value) (tl : Nat) (f : Nat → Option Nat) (j : Nat) (A : Nat → jad) (hd : 28 ≤ d) (hW : WT V0) (ha0 : jis V0 (.inr 4) a0) (hx : V0 a0 = some (.inr (4, fs))) (h5 : fs[5]? = some (.ref tl)) (htl : V0 tl = some (.inl (5, 4, .inr (.inr (.inr (.inr f)))))) (hg : x1 = nI j) (hj : j < 4) (hb1 : ¬ x1 < 0) (hb2 : ¬ Int32.ofNat 4 ≤ x1) (hb3 : ¬ x2 < 1) (hb4 : x2 ≤ 20) (hf : f j = none) (hty4 : ∀ j : Nat, j < 4 → f j = none ∨ ∃ t : Nat, f j = some t ∧ jty V0 t (A j) (j : Int)) (hA5 : ∀ i j : Nat, i < 4 → j < 4 → i ≠ j → f i ≠ none → f j ≠ none → jsp (A i) (A j)) (hp0 : 1 ≤ x2.toInt) (hp1 : x2.toInt ≤ 20) : jTot tS mX6_bridges d [.ref a0, .int x1, .int x2] V0 8 15738 (fun r V => (jPost [.inl 5, .inr 2, .inl 1, .inl 2, .inl 8, .inl 37, .inl 38] V0 (fun r _ => ∃ y : Int32, r = some (.int y) ∧ ((-2147483648) ≤ y.toInt) ∧ (y.toInt ≤ 2147483647) ∧ ((jTT (j : Int) x2.toInt.toNat jL0 ≤ 600000 ∧ y = (jrq (j : Int) x2.toInt.toNat).2.2.2) ∨ (600000 < jTT (j : Int) x2.toInt.toNat jL0 ∧ y.toInt = -5)))) r V ∧ jTL V a0 ∧ (∃ f2 : Nat → Option Nat, V tl = some (.inl (5, 4, .inr (.inr (.inr (.inr f2))))) ∧ (∀ i, i ≠ j → f2 i = f i) ∧ ∃ t, f2 j = some t) ∧ (jTF V0 a0 → jTF V a0)) := by
  refine jTot.of_J [some (.ref a0), some (.int x1), some (.int x2), none] moX6_bridges (Nat.le_of_ble_eq_true rfl) rfl ?_
  have hrx1 := j_rng x1
  have hrx2 := j_rng x2
  have he : jeff [.inl 5, .inr 2, .inl 1, .inl 2, .inl 8, .inl 37, .inl 38] V0 V0 := jeff.refl _ _
  have hb30 := hb3
  have hKx : jokO V0 (jFs 4) fs := hW _ _ id hx
  have htlk : jis V0 (.inl 5) tl := ⟨_, htl, rfl⟩
  have hN4 : (4 : Nat) < 2 ^ 31 := by decide
  have hvt : ∀ (j b : Nat), j < 4 → f j = some b → jis V0 (.inr 2) b := by
    obtain ⟨n9, f9, h91, h92, h93, h94⟩ := WT_arrR hW id rfl htlk
    cases htl.symm.trans h91
    exact h94
  have hjj : ∀ j2 : Nat, x1 = nI j2 → j2 < 4 → j2 = j := fun j2 h1 h2 => by
    have h3 : x1.toNatClampNeg = j2 := by rw [h1]; exact nI_clamp (by omega)
    have h4 : x1.toNatClampNeg = j := by rw [hg]; exact nI_clamp (by omega)
    omega
  clear hN4
  have hx0 := hx
  have h50 := h5
  have htl0 := htl
  have hgj : x1.toInt = (j : Int) := by rw [hg]; exact nI_toInt (by omega)
  refine J_aload_n dX6_bridges_0 rfl ?_
  refine J_iload_n dX6_bridges_1 rfl ?_
  refine J_iload_n dX6_bridges_2 rfl ?_
  refine Jz_iconst 1 dX6_bridges_3 (by decide) (fun y3 he3 => ?_)
  refine Jw_callV3 (q9 := (RX6, TX6, 7)) moX6_tallyFor jw_ml_X6_149 jw_im_X6_tallyFor jw_se_X6_tallyFor ha0 rfl rfl dX6_bridges_4 (w_X6_tallyFor_newz (d - 1) _ _ _ _ _ fs tl f j (by omega) hW ha0 hx h5 htl hg hj hf hb1 hb2 (by rw [(jI_inj.mp (he3.eq.trans rfl) : y3 = 1)]; exact hb30) hb4) (by omega) (by omega) (by omega) (Nat.le_of_ble_eq_true rfl) (fun r4 V4 h4 => ?_)
  obtain ⟨t, rfl, hW, hx4, hbt0, htl2, hjm⟩ := h4
  have he := he.trans (hx4.sub (jsub_of rfl))
  have ha0 := ha0.mono hx4.1
  have htlk := htlk.mono hx4.1
  have hx := hx4.2 _ _ hx (jnot_of rfl)
  have hKx := hKx.mono hx4.1
  have htlk : jis V4 (.inl 5) tl := ⟨_, htl2, rfl⟩
  obtain ⟨P, hnew, hty, hnf, hfa⟩ := hjm
  have htf : jHid (jTF V0 a0 → jTF V4 a0) := jHid.mk (fun q => jTF.fresh q hx0 h50 htl0 hx4.1 htl2 hf (va_up_self _ _ _) (fun i hi => va_up_ne _ _ hi) hnf hfa)
  obtain ⟨gv, R, sd, cd, tg, sp, ln, TK, WC, SQ, RC, BC, ⟨e1, e2, e3, e4⟩, ⟨⟨ts, hT, hF0⟩, i1, i2, i3, i4, i5⟩, ⟨r3, r4, r5, r6, r7⟩, ⟨d3, d4, d5, d6, d7⟩, htk, htal⟩ := id hty
  rw [← e1] at e2 e3 e4 htk htal
  have hF1 := i1.get hT
  have hF2 := i2.get hT
  have hF11 := i3.get hT
  have hF12 := i4.get hT
  have hF13 := i5.get hT
  have hF3 := r3.get hT
  have hF4 := r4.get hT
  have hF5 := r5.get hT
  have hF6 := r6.get hT
  have hF7 := r7.get hT
  have hbt : jis V4 (.inr 2) t := ⟨_, hT, rfl⟩
  have hKt : jokO V4 (jFs 2) ts := hW _ _ id hT
  have hbq3 : jis V4 (.inl 2) _ := ⟨_, d3, rfl⟩
  have hbq4 : jis V4 (.inl 8) _ := ⟨_, d4, rfl⟩
  have hbq5 : jis V4 (.inl 1) _ := ⟨_, d5, rfl⟩
  have hbq6 : jis V4 (.inl 37) _ := ⟨_, d6, rfl⟩
  have hbq7 : jis V4 (.inl 38) _ := ⟨_, d7, rfl⟩
  have hgq0 : 0 ≤ gv.toInt := by omega
  have hgq3 : gv.toInt ≤ 3 := by omega
  · refine J_astore_n dX6_bridges_7 rfl (by decide) ?_
    refine J_aload_n dX6_bridges_8 rfl ?_
    refine J_ifnonnull (tgt := 15) dX6_bridges_9 (by decide) ?_
    refine J_aload_n dX6_bridges_15 rfl ?_
    refine J_iload_n dX6_bridges_16 rfl ?_
    refine Jw_callV1 (q9 := (RX4, TX4, 14)) moX4_holds jw_ml_X6_153 jw_im_X4_holds jw_se_X4_holds hbt rfl rfl dX6_bridges_17 (w_X4_holds_z (d - 1) _ t x2 gv R sd cd tg sp P.1 P.2.1 P.2.2.1 P.2.2.2.1 P.2.2.2.2 ln TK WC SQ RC BC (by omega) hW  hbt ⟨_, hT, hF0⟩ ⟨_, hT, hF1⟩ ⟨_, hT, hF2⟩ ⟨_, hT, hF11⟩ ⟨_, hT, hF12⟩ ⟨_, hT, hF13⟩ ⟨_, hT, hF3⟩ ⟨_, hT, hF4⟩ ⟨_, hT, hF5⟩ ⟨_, hT, hF6⟩ ⟨_, hT, hF7⟩ d3 d4 d5 d6 d7 hgq0 hgq3 e2 e3 e4 (by omega) (by omega) htk htal) (by omega) (Nat.zero_le _) (Nat.zero_le _) (Nat.le_of_ble_eq_true rfl) (fun r17 V17 h17 => ?_)
    obtain ⟨h17, hX17_0, hX17_1, hX17_2, hX17_3, ⟨fv17_0, hfv17_0, hfp17_0⟩, ⟨fv17_1, hfv17_1, hfp17_1⟩, ⟨fv17_2, hfv17_2, hfp17_2⟩⟩ := h17
    obtain ⟨hW, hx17, hr17⟩ := h17
    have he := he.trans (hx17.sub (jsub_of rfl))
    have ha0 := ha0.mono hx17.1
    have htlk := htlk.mono hx17.1
    have hbt := hbt.mono hx17.1
    have hbq3 := hbq3.mono hx17.1
    have hbq4 := hbq4.mono hx17.1
    have hbq5 := hbq5.mono hx17.1
    have hbq6 := hbq6.mono hx17.1
    have hbq7 := hbq7.mono hx17.1
    have hx := hx17.2 _ _ hx (jnot_of rfl)
    have hKx := hKx.mono hx17.1
    obtain ⟨fs17t, hOfs17t, hRfs17t⟩ := hx17.1.keep hT
    have hKfs17t : jokO _ (jFs 2) fs17t := hW _ _ id hOfs17t
    have hFfs17t_3 := hRfs17t _ _ hF3
    have hFfs17t_4 := hRfs17t _ _ hF4
    have hFfs17t_5 := hRfs17t _ _ hF5
    have hFfs17t_6 := hRfs17t _ _ hF6
    have hFfs17t_7 := hRfs17t _ _ hF7
    have htl2 := hx17.2 _ _ htl2 (jnot_of rfl)
    obtain ⟨y17, rfl, hl17, hh17, hP17_0⟩ := hr17
    have hFv17_0 := hfv17_0.get hOfs17t
    have hsb17_0 : gv = fv17_0 := (jI_inj.mp hfp17_0).symm
    subst hsb17_0
    have hFv17_1 := hfv17_1.get hOfs17t
    have hsb17_1 : R = fv17_1 := (jI_inj.mp hfp17_1).symm
    subst hsb17_1
    have hFv17_2 := hfv17_2.get hOfs17t
    have hsb17_2 : sd = fv17_2 := (jI_inj.mp hfp17_2).symm
    subst hsb17_2
    clear hX17_0
    rw [e1] at hP17_0 hX17_1 hX17_2
    obtain ⟨WC17, SQ17, RC17, BC17, ⟨a4, a5, a6, a7⟩, hhas⟩ := hX17_2
    have hH9 := jHid.mk hhas
    clear hhas
    have hHP := jHid.mk hP17_0
    clear hP17_0
    have hjt : jTL V17 a0 := jTL.fresh hx0 h50 hty4 hA5 he.1 htl2 hj hf (va_up_self _ _ _) (fun i hi => va_up_ne _ _ hi) hX17_1 hnew (jTL.frs ⟨_, htl0, rfl⟩ hnew hfa hX17_3)
    obtain ⟨hN_WC17, hv_WC17⟩ := WT_rngI (r := ((-2147483648), 2147483647)) hW id rfl a4
    clear hN_WC17
    obtain ⟨hN_RC17, hv_RC17⟩ := WT_rngI (r := ((-2147483648), 2147483647)) hW id rfl a6
    clear hN_RC17
    obtain ⟨hN_BC17, hv_BC17⟩ := WT_rngI (r := ((-2147483648), 2147483647)) hW id rfl a7
    clear hN_BC17
    refine Jz_if_eq (tgt := 34) jEq.rf dX6_bridges_20 (by decide) (fun c20 => ?_) (fun c20 => ?_)
    · refine Jz_bipush (-5) dX6_bridges_34 (by decide) (fun y34 he34 => ?_)
      exact J_ret (r := some (.int _)) dX6_bridges_36 ⟨rfl, _, rfl, rfl⟩ (⟨⟨hW, he, ⟨_, rfl, (j_rng _).1, (j_rng _).2, (Or.inr ⟨hHP.o.elim (fun q => absurd q.1 (by omega)) (fun q => q.2), he34.eq⟩)⟩⟩, hjt, ⟨_, htl2, fun i hi => va_up_ne _ _ hi, _, va_up_self _ _ _⟩, (fun q => (htf.o q).keep hx17 (jdis_of rfl))⟩)
    · have hle := jHid.mk (hHP.o.elim (fun q => q.2) (fun q => absurd q.1 (by omega)))
      have hh9 := jHid.mk (hH9.o hle.o)
      refine J_aload_n dX6_bridges_23 rfl ?_
      refine J_get jf_X6_173 dX6_bridges_24 hOfs17t hFfs17t_7 ?_
      refine J_iload_n dX6_bridges_27 rfl ?_
      refine J_callS2 moX6_cell jw_ml_X6_110 jw_st_X6_cell dX6_bridges_28 (w_X6_cell_x (d - 1) _ P.2.2.2.2 x2 a7 (WT_rngI (r := (-2147483648, 2147483647)) hW id rfl a7).1 rfl (by omega) (by omega)) (by omega) (Nat.zero_le _) (Nat.zero_le _) (Nat.le_of_ble_eq_true rfl) (fun r28 V28 h28 => ?_)
      obtain ⟨⟨y28, rfl, hf28⟩, hE28⟩ := h28
      have hE28 := hE28.symm
      subst hE28
      have hz28 : jEq y28.toInt (BC17 (x2.toInt).toNat).toInt := by rw [← hf28]; rfl
      clear hf28
      · refine J_goto (tgt := 36) dX6_bridges_31 (by decide) ?_
        exact J_ret (r := some (.int _)) dX6_bridges_36 ⟨rfl, _, rfl, rfl⟩ (⟨⟨hW, he, ⟨_, rfl, (j_rng _).1, (j_rng _).2, (Or.inl ⟨hle.o, ((jI_inj.mp hz28.eq).trans (hh9.o.2.2.2 (by omega)))⟩)⟩⟩, hjt, ⟨_, htl2, fun i hi => va_up_ne _ _ hi, _, va_up_self _ _ _⟩, (fun q => (htf.o q).keep hx17 (jdis_of rfl))⟩)
set_option maxRecDepth 100000 in
set_option maxHeartbeats 8000000 in
theorem w_X7_in_y {tS : jTS} (d : Nat) (V0 : jH) (x0 : Int32) (x1 : Int32) (x2 : Int32) (hd : 0 ≤ d)   : jTot tS mX7_in d [.int x0, .int x1, .int x2] V0 0 0 (fun r V => (fun r _ => ∃ y : Int32, r = some (.int y) ∧ (0 ≤ y.toInt) ∧ (y.toInt ≤ 1) ∧ ((y.toInt = 1 ∧ x1.toInt ≤ x0.toInt ∧ x0.toInt ≤ x2.toInt) ∨ (y.toInt = 0 ∧ ¬ (x1.toInt ≤ x0.toInt ∧ x0.toInt ≤ x2.toInt)))) r V ∧ V = V0) := by
  refine jTot.of_J [some (.int x0), some (.int x1), some (.int x2)] moX7_in (Nat.le_of_ble_eq_true rfl) rfl ?_
  have hrx0 := j_rng x0
  have hrx1 := j_rng x1
  have hrx2 := j_rng x2
  refine J_iload_n dX7_in_0 rfl ?_
  refine J_iload_n dX7_in_1 rfl ?_
  refine Jz_icmp_lt (tgt := 14) jEq.rf jEq.rf dX7_in_2 (by decide) (fun c2 => ?_) (fun c2 => ?_)
  · refine Jz_iconst 0 dX7_in_14 (by decide) (fun y14 he14 => ?_)
    exact J_ret (r := some (.int _)) dX7_in_15 ⟨rfl, _, rfl, (nar_b (by (try simp only [he14.eq, true_and, and_true]) <;> omega) (by (try simp only [he14.eq, true_and, and_true]) <;> omega))⟩ (⟨⟨_, rfl, (by (try simp only [he14.eq, true_and, and_true]) <;> omega), (by (try simp only [he14.eq, true_and, and_true]) <;> omega), (by (try simp only [he14.eq, true_and, and_true]) <;> omega)⟩, rfl⟩)
  · refine J_iload_n dX7_in_5 rfl ?_
    refine J_iload_n dX7_in_6 rfl ?_
    refine Jz_icmp_gt (tgt := 14) jEq.rf jEq.rf dX7_in_7 (by decide) (fun c7 => ?_) (fun c7 => ?_)
    · refine Jz_iconst 0 dX7_in_14 (by decide) (fun y14 he14 => ?_)
      exact J_ret (r := some (.int _)) dX7_in_15 ⟨rfl, _, rfl, (nar_b (by (try simp only [he14.eq, true_and, and_true]) <;> omega) (by (try simp only [he14.eq, true_and, and_true]) <;> omega))⟩ (⟨⟨_, rfl, (by (try simp only [he14.eq, true_and, and_true]) <;> omega), (by (try simp only [he14.eq, true_and, and_true]) <;> omega), (by (try simp only [he14.eq, true_and, and_true]) <;> omega)⟩, rfl⟩)
    · refine Jz_iconst 1 dX7_in_10 (by decide) (fun y10 he10 => ?_)
      refine J_goto (tgt := 15) dX7_in_11 (by decide) ?_
      exact J_ret (r := some (.int _)) dX7_in_15 ⟨rfl, _, rfl, (nar_b (by (try simp only [he10.eq, true_and, and_true]) <;> omega) (by (try simp only [he10.eq, true_and, and_true]) <;> omega))⟩ (⟨⟨_, rfl, (by (try simp only [he10.eq, true_and, and_true]) <;> omega), (by (try simp only [he10.eq, true_and, and_true]) <;> omega), (by (try simp only [he10.eq, true_and, and_true]) <;> omega)⟩, rfl⟩)
set_option maxRecDepth 100000 in
set_option maxHeartbeats 8000000 in
theorem w_X7_isGround_y {tS : jTS} (d : Nat) (V0 : jH) (x0 : Int32) (hd : 1 ≤ d)   : jTot tS mX7_isGround d [.int x0] V0 0 0 (fun r V => (fun r _ => ∃ y : Int32, r = some (.int y) ∧ (0 ≤ y.toInt) ∧ (y.toInt ≤ 1) ∧ ((y.toInt = 1 ∧ 0 ≤ x0.toInt ∧ x0.toInt ≤ 3) ∨ (y.toInt = 0 ∧ ¬ (0 ≤ x0.toInt ∧ x0.toInt ≤ 3)))) r V ∧ V = V0) := by
  refine jTot.of_J [some (.int x0)] moX7_isGround (Nat.le_of_ble_eq_true rfl) rfl ?_
  have hrx0 := j_rng x0
  refine J_iload_n dX7_isGround_0 rfl ?_
  refine Jz_iconst 0 dX7_isGround_1 (by decide) (fun y1 he1 => ?_)
  refine Jz_iconst 3 dX7_isGround_2 (by decide) (fun y2 he2 => ?_)
  refine J_callS3 moX7_in jw_ml_X7_105 jw_st_X7_in dX7_isGround_3 (w_X7_in_y (d - 1) _ x0 y1 y2 (by omega)   ) (by omega) (Nat.zero_le _) (Nat.zero_le _) (Nat.le_of_ble_eq_true rfl) (fun r3 V3 h3 => ?_)
  obtain ⟨⟨y3, rfl, hl3, hh3, hP3_0⟩, hE3⟩ := h3
  have hE3 := hE3.symm
  subst hE3
  try simp only [he1.eq, he2.eq] at hP3_0
  exact J_ret (r := some (.int _)) dX7_isGround_6 ⟨rfl, _, rfl, (nar_b (by omega) (by omega))⟩ (⟨⟨_, rfl, (by omega), (by omega), (by omega)⟩, rfl⟩)
set_option maxRecDepth 100000 in
set_option maxHeartbeats 8000000 in
theorem w_X7_walks_z {tS : jTS} (d : Nat) (V0 : jH) (a0 : Nat) (x1 : Int32) (x2 : Int32) (hd : 3 ≤ d) (hW : WT V0) (ha0 : jis V0 (.inr 5) a0) (hct : jRM V0 a0) : jTot tS mX7_walks d [.ref a0, .int x1, .int x2] V0 0 0 (fun r V => (jPost [.inr 5, .inl 40, .inl 23, .inl 17, .inl 18, .inl 19, .inl 20, .inl 41, .inl 26, .inl 46, .inl 24, .inl 25] V0 (fun r _ => ∃ y : Int32, r = some (.int y) ∧ ((-2147483648) ≤ y.toInt) ∧ (y.toInt ≤ 2147483647) ∧ (((0 ≤ x1.toInt ∧ x1.toInt ≤ 3 ∧ 0 ≤ x2.toInt ∧ x2.toInt ≤ 20) ∧ ((jTT x1.toInt x2.toInt.toNat jL0 ≤ 600000 ∧ y.toInt = ((jrq x1.toInt x2.toInt.toNat).1 : Int)) ∨ (600000 < jTT x1.toInt x2.toInt.toNat jL0 ∧ y.toInt = -5))) ∨ (¬ (0 ≤ x1.toInt ∧ x1.toInt ≤ 3 ∧ 0 ≤ x2.toInt ∧ x2.toInt ≤ 20) ∧ y.toInt = -2)))) r V ∧ jRM V a0 ∧ jkc 5 [0, 23, 24] V0 V) := by
  refine jTot.of_J [some (.ref a0), some (.int x1), some (.int x2)] moX7_walks (Nat.le_of_ble_eq_true rfl) rfl ?_
  have hrx1 := j_rng x1
  have hrx2 := j_rng x2
  have he : jeff [.inr 5, .inl 40, .inl 23, .inl 17, .inl 18, .inl 19, .inl 20, .inl 41, .inl 26, .inl 46, .inl 24, .inl 25] V0 V0 := jeff.refl _ _
  have hkp : jkc 5 [0, 23, 24] V0 V0 := jkc.rf
  obtain ⟨kn, co, sq, rg, bg, se, KN, CO, SQ, RG, BG, SE, ⟨m1, m2, m3, m4, m5, m6⟩, ⟨k1, k2, k3, k4, k5, k6⟩, hsn0, hmo⟩ := id hct
  obtain ⟨ms, hM, g11⟩ := id m1
  have g12 := m2.get hM
  have g13 := m3.get hM
  have g14 := m4.get hM
  have g15 := m5.get hM
  have g16 := m6.get hM
  have hKm : jokO V0 (jFs 5) ms := hW _ _ id hM
  have hbm1 : jis V0 (.inl 40) kn := ⟨_, k1, rfl⟩
  have hbm2 : jis V0 (.inl 23) co := ⟨_, k2, rfl⟩
  have hbm3 : jis V0 (.inl 46) sq := ⟨_, k3, rfl⟩
  have hbm4 : jis V0 (.inl 24) rg := ⟨_, k4, rfl⟩
  have hbm5 : jis V0 (.inl 25) bg := ⟨_, k5, rfl⟩
  have hbm6 : jis V0 (.inl 41) se := ⟨_, k6, rfl⟩
  refine J_iload_n dX7_walks_0 rfl ?_
  refine J_callS1 moX7_isGround jw_ml_X7_184 jw_st_X7_isGround dX7_walks_1 (w_X7_isGround_y (d - 1) _ x1 (by omega)   ) (by omega) (Nat.zero_le _) (Nat.zero_le _) (Nat.le_of_ble_eq_true rfl) (fun r1 V1 h1 => ?_)
  obtain ⟨⟨y1, rfl, hl1, hh1, hP1_0⟩, hE1⟩ := h1
  have hE1 := hE1.symm
  subst hE1
  refine Jz_if_eq (tgt := 17) jEq.rf dX7_walks_4 (by decide) (fun c4 => ?_) (fun c4 => ?_)
  · refine Jz_bipush (-2) dX7_walks_17 (by decide) (fun y17 he17 => ?_)
    exact J_ret (r := some (.int _)) dX7_walks_19 ⟨rfl, _, rfl, rfl⟩ (⟨⟨hW, he, ⟨_, rfl, (j_rng _).1, (j_rng _).2, (Or.inr ⟨(by omega), he17.eq⟩)⟩⟩, hct, hkp⟩)
  · refine J_iload_n dX7_walks_7 rfl ?_
    refine Jz_iconst 0 dX7_walks_8 (by decide) (fun y8 he8 => ?_)
    refine Jz_bipush 20 dX7_walks_9 (by decide) (fun y9 he9 => ?_)
    refine J_callS3 moX7_in jw_ml_X7_105 jw_st_X7_in dX7_walks_11 (w_X7_in_y (d - 1) _ x2 y8 y9 (by omega)   ) (by omega) (Nat.zero_le _) (Nat.zero_le _) (Nat.le_of_ble_eq_true rfl) (fun r11 V11 h11 => ?_)
    obtain ⟨⟨y11, rfl, hl11, hh11, hP11_0⟩, hE11⟩ := h11
    have hE11 := hE11.symm
    subst hE11
    try simp only [he8.eq, he9.eq] at hP11_0
    refine Jz_if_ne (tgt := 20) jEq.rf dX7_walks_14 (by decide) (fun c14 => ?_) (fun c14 => ?_)
    · refine J_aload_n dX7_walks_20 rfl ?_
      refine J_iload_n dX7_walks_21 rfl ?_
      refine J_iload_n dX7_walks_22 rfl ?_
      have hig : ((x1.toInt.toNat : Nat) : Int) = x1.toInt := by omega
      have hix : 21 * x1.toInt.toNat + x2.toInt.toNat = (21 * x1.toInt + x2.toInt).toNat := by omega
      have hmo0 : jmo x1.toInt x2.toInt.toNat KN CO SQ RG BG (21 * x1.toInt + x2.toInt).toNat := by
          have q := hmo x1.toInt.toNat x2.toInt.toNat (by omega) (by omega)
          rw [hig, hix] at q
          exact q
      obtain ⟨w23p4, hF23p4, b23p4, rfl, hb23p4⟩ := hKm.2 4 (.inr (some (.inl 17))) rfl
      obtain ⟨w23p6, hF23p6, b23p6, rfl, hb23p6⟩ := hKm.2 6 (.inr (some (.inl 18))) rfl
      obtain ⟨w23p7, hF23p7, b23p7, rfl, hb23p7⟩ := hKm.2 7 (.inr (some (.inl 19))) rfl
      obtain ⟨w23p8, hF23p8, b23p8, rfl, hb23p8⟩ := hKm.2 8 (.inr (some (.inl 20))) rfl
      obtain ⟨w23p17, hF23p17, b23p17, rfl, hb23p17⟩ := hKm.2 17 (.inr (some (.inl 26))) rfl
      obtain ⟨n23q17, f23q17, hA23q17, hN23q17, hM23q17, hv23q17⟩ := WT_arrI (r := (-2147483648, 2147483647)) hW id rfl hb23p4
      obtain rfl := hM23q17 120 rfl
      clear hN23q17 hM23q17
      obtain ⟨n23q18, f23q18, hA23q18, hN23q18, hM23q18, hv23q18⟩ := WT_arrI (r := (-2147483648, 2147483647)) hW id rfl hb23p6
      obtain rfl := hM23q18 121 rfl
      clear hN23q18 hM23q18
      obtain ⟨n23q19, f23q19, hA23q19, hN23q19, hM23q19, hv23q19⟩ := WT_arrI (r := (-2147483648, 2147483647)) hW id rfl hb23p7
      obtain rfl := hM23q19 121 rfl
      clear hN23q19 hM23q19
      obtain ⟨n23q20, f23q20, hA23q20, hN23q20, hM23q20, hv23q20⟩ := WT_arrI (r := (-2147483648, 2147483647)) hW id rfl hb23p8
      obtain rfl := hM23q20 121 rfl
      clear hN23q20 hM23q20
      obtain ⟨n23q26, f23q26, hA23q26, hN23q26, hM23q26, hv23q26⟩ := WT_arrI (r := (-2147483648, 2147483647)) hW id rfl hb23p17
      obtain rfl := hM23q26 22 rfl
      clear hN23q26 hM23q26
      refine Jw_callV2 (q9 := (RX7, TX7, 34)) moX7_counts jw_ml_X7_187 jw_im_X7_counts jw_se_X7_counts ha0 rfl rfl dX7_walks_23 (w_X7_counts_z (d - 1) _ a0 x1 x2 b23p4 b23p6 b23p7 b23p8 kn co sq rg bg se b23p17 f23q17 f23q18 f23q19 f23q20 KN CO SQ RG BG SE f23q26 (by omega) hW  ha0 ⟨_, hM, hF23p4⟩ ⟨_, hM, hF23p6⟩ ⟨_, hM, hF23p7⟩ ⟨_, hM, hF23p8⟩ ⟨_, hM, g11⟩ ⟨_, hM, g12⟩ ⟨_, hM, g13⟩ ⟨_, hM, g14⟩ ⟨_, hM, g15⟩ ⟨_, hM, g16⟩ ⟨_, hM, hF23p17⟩ hA23q17 hA23q18 hA23q19 hA23q20 k1 k2 k3 k4 k5 k6 hA23q26 (by omega) (by omega) (by omega) (by omega) hsn0 hmo0) (by omega) (Nat.zero_le _) (Nat.zero_le _) (Nat.le_of_ble_eq_true rfl) (fun r23 V23 h23 => ?_)
      obtain ⟨h23, hX23_0, hX23_1⟩ := h23
      obtain ⟨hW, hx23, hr23⟩ := h23
      have he := he.trans (hx23.sub (jsub_of rfl))
      have hkp := hkp.trans hX23_1
      have ha0 := ha0.mono hx23.1
      have hbm1 := hbm1.mono hx23.1
      have hbm2 := hbm2.mono hx23.1
      have hbm3 := hbm3.mono hx23.1
      have hbm4 := hbm4.mono hx23.1
      have hbm5 := hbm5.mono hx23.1
      have hbm6 := hbm6.mono hx23.1
      have hb23p4 := hb23p4.mono hx23.1
      have hb23p6 := hb23p6.mono hx23.1
      have hb23p7 := hb23p7.mono hx23.1
      have hb23p8 := hb23p8.mono hx23.1
      have hb23p17 := hb23p17.mono hx23.1
      obtain ⟨fs23a0, hOfs23a0, hRfs23a0⟩ := hx23.1.keep hM
      have hKfs23a0 : jokO _ (jFs 5) fs23a0 := hW _ _ id hOfs23a0
      have hFfs23a0_11 := hRfs23a0 _ _ g11
      have hFfs23a0_12 := hRfs23a0 _ _ g12
      have hFfs23a0_13 := hRfs23a0 _ _ g13
      have hFfs23a0_14 := hRfs23a0 _ _ g14
      have hFfs23a0_15 := hRfs23a0 _ _ g15
      have hFfs23a0_16 := hRfs23a0 _ _ g16
      have hFfs23a0_4 := hRfs23a0 _ _ hF23p4
      have hFfs23a0_6 := hRfs23a0 _ _ hF23p6
      have hFfs23a0_7 := hRfs23a0 _ _ hF23p7
      have hFfs23a0_8 := hRfs23a0 _ _ hF23p8
      have hFfs23a0_17 := hRfs23a0 _ _ hF23p17
      cases hr23
      obtain ⟨KN23, CO23, SQ23, RG23, BG23, SE23, b1, b2, b3, b4, b5, b6, hsn, hkn, hmk, hko, hot⟩ := hX23_0
      have hct : jRM V23 a0 := jRM.upd (g := x1.toInt.toNat) (n := x2.toInt.toNat) (by omega) (by omega) m1 m2 m3 m4 m5 m6 he b1 b2 b3 b4 b5 b6 hsn (by rw [hix]; exact hkn) (by rw [hig, hix]; exact hmk) (by rw [hix]; exact hko) (by rw [hix]; exact hot) hmo
      obtain ⟨hN_KN23, hv_KN23⟩ := WT_rngI (r := (0, 1)) hW id rfl b1
      clear hN_KN23
      obtain ⟨hN_CO23, hv_CO23⟩ := WT_rngI (r := ((-2147483648), 2147483647)) hW id rfl b2
      clear hN_CO23
      obtain ⟨hN_RG23, hv_RG23⟩ := WT_rngI (r := ((-2147483648), 2147483647)) hW id rfl b4
      clear hN_RG23
      obtain ⟨hN_BG23, hv_BG23⟩ := WT_rngI (r := ((-2147483648), 2147483647)) hW id rfl b5
      clear hN_BG23
      obtain ⟨hN_SE23, hv_SE23⟩ := WT_rngI (r := (0, 1)) hW id rfl b6
      clear hN_SE23
      refine J_aload_n dX7_walks_26 rfl ?_
      refine J_get jf_X7_41 dX7_walks_27 hOfs23a0 hFfs23a0_12 ?_
      refine Jz_bipush 21 dX7_walks_30 (by decide) (fun y30 he30 => ?_)
      refine J_iload_n dX7_walks_32 rfl ?_
      refine Jz_imul he30 jEq.rf dX7_walks_33 (by omega) (by omega) (fun y33 he33 => ?_)
      refine J_iload_n dX7_walks_34 rfl ?_
      refine Jz_iadd he33 jEq.rf dX7_walks_35 (by omega) (by omega) (fun y35 he35 => ?_)
      refine Jz_iald (r := ((-2147483648), 2147483647)) he35 dX7_walks_36 b2 rfl hv_CO23 (by omega) (by omega) (fun y36 hf36 hl36 hh36 => ?_)
      dsimp only at hl36 hh36
      clear hl36 hh36
      have e36 : CO23 (21 * x1.toInt + x2.toInt).toNat = y36 := by rw [hf36]
      exact J_ret (r := some (.int _)) dX7_walks_37 ⟨rfl, _, rfl, rfl⟩ (⟨⟨hW, he, ⟨_, rfl, (j_rng _).1, (j_rng _).2, (Or.inl ⟨(by omega), (hmk.co.imp (fun q => ⟨q.1, by rw [← e36]; exact q.2.2.1⟩) (fun q => ⟨q.1, by rw [← e36]; exact q.2⟩))⟩)⟩⟩, hct, hkp⟩)
    · refine Jz_bipush (-2) dX7_walks_17 (by decide) (fun y17 he17 => ?_)
      exact J_ret (r := some (.int _)) dX7_walks_19 ⟨rfl, _, rfl, rfl⟩ (⟨⟨hW, he, ⟨_, rfl, (j_rng _).1, (j_rng _).2, (Or.inr ⟨(by omega), he17.eq⟩)⟩⟩, hct, hkp⟩)
