set_option maxRecDepth 100000 in
set_option maxHeartbeats 8000000 in
theorem w_X4_cellOf_z {tS : jTS} (d : Nat) (V0 : jH) (a0 : Nat) (x1 : Int32) (x2 : Int32) (x3 : Int32) (g : Int32) (R : Int32) (sd : Int32) (hd : 0 ≤ d) (hW : WT V0) (ha0 : jis V0 (.inr 2) a0) (hf_g : jfI V0 a0 2 0 g) (hf_R : jfI V0 a0 2 1 R) (hf_sd : jfI V0 a0 2 2 sd) (hp0 : 0 ≤ g.toInt) (hp1 : g.toInt ≤ 3) (hp2 : R.toInt = jRg g.toInt) (hp3 : sd.toInt = 2 * jRg g.toInt + 1) (hp4 : -jRg g.toInt ≤ x1.toInt) (hp5 : x1.toInt ≤ jRg g.toInt) (hp6 : -jRg g.toInt ≤ x2.toInt) (hp7 : x2.toInt ≤ jRg g.toInt) (hp8 : -jRg g.toInt ≤ x3.toInt) (hp9 : x3.toInt ≤ jRg g.toInt) : jTot tS mX4_cellOf d [.ref a0, .int x1, .int x2, .int x3] V0 0 0 (fun r V => (fun r _ => ∃ y : Int32, r = some (.int y) ∧ ((-2147483648) ≤ y.toInt) ∧ (y.toInt ≤ 2147483647) ∧ (y.toInt = jcell g.toInt (x1.toInt, x2.toInt, x3.toInt))) r V ∧ V = V0) := by
  refine jTot.of_J [some (.ref a0), some (.int x1), some (.int x2), some (.int x3), none] moX4_cellOf (Nat.le_of_ble_eq_true rfl) rfl ?_
  have hrx1 := j_rng x1
  have hrx2 := j_rng x2
  have hrx3 := j_rng x3
  have he : jeff [] V0 V0 := jeff.refl _ _
  obtain ⟨fs_a0, hO_a0, hK_a0⟩ := WT_obj hW id ha0
  have hF_g := hf_g.get hO_a0
  have hrg : (-2147483648) ≤ g.toInt ∧ g.toInt ≤ 2147483647 := jok_rngI hK_a0 rfl hF_g
  have hF_R := hf_R.get hO_a0
  have hrR : 0 ≤ R.toInt ∧ R.toInt ≤ 20 := jok_rngI hK_a0 rfl hF_R
  have hF_sd := hf_sd.get hO_a0
  have hrsd : (-2147483648) ≤ sd.toInt ∧ sd.toInt ≤ 2147483647 := jok_rngI hK_a0 rfl hF_sd
  have hjR := jRg_cases g.toInt
  refine J_iload_n dX4_cellOf_0 rfl ?_
  refine J_aload_n dX4_cellOf_1 rfl ?_
  refine J_get jf_X4_48 dX4_cellOf_2 hO_a0 hF_R ?_
  refine Jz_iadd jEq.rf jEq.rf dX4_cellOf_5 (by omega) (by omega) (fun y5 he5 => ?_)
  refine J_aload_n dX4_cellOf_6 rfl ?_
  refine J_get jf_X4_51 dX4_cellOf_7 hO_a0 hF_sd ?_
  refine J_iload_n dX4_cellOf_10 rfl ?_
  refine J_aload_n dX4_cellOf_11 rfl ?_
  refine J_get jf_X4_48 dX4_cellOf_12 hO_a0 hF_R ?_
  refine Jz_iadd jEq.rf jEq.rf dX4_cellOf_15 (by omega) (by omega) (fun y15 he15 => ?_)
  have hm1 : sd.toInt = 41 → sd.toInt * (x2.toInt + R.toInt) = 41 * (x2.toInt + R.toInt) := fun h => by rw [h]
  have hm2 : sd.toInt = 25 → sd.toInt * (x2.toInt + R.toInt) = 25 * (x2.toInt + R.toInt) := fun h => by rw [h]
  refine Jz_imul jEq.rf he15 dX4_cellOf_16 (by omega) (by omega) (fun y16 he16 => ?_)
  refine Jz_iadd he5 he16 dX4_cellOf_17 (by omega) (by omega) (fun y17 he17 => ?_)
  refine J_istore dX4_cellOf_18 rfl (by decide) ?_
  refine J_aload_n dX4_cellOf_20 rfl ?_
  refine J_get jf_X4_45 dX4_cellOf_21 hO_a0 hF_g ?_
  refine Jz_iconst 3 dX4_cellOf_24 (by decide) (fun y24 he24 => ?_)
  refine Jz_icmp_ne (tgt := 50) jEq.rf he24 dX4_cellOf_25 (by decide) (fun c25 => ?_) (fun c25 => ?_)
  · refine J_iload dX4_cellOf_50 rfl ?_
    exact J_ret (r := some (.int _)) dX4_cellOf_52 ⟨rfl, _, rfl, rfl⟩ (⟨⟨_, rfl, (j_rng _).1, (j_rng _).2, (by first | (have e9 : g.toInt = 3 := (by omega); rw [jcell_3 e9, he46.eq]; (show _ = x1.toInt + 12 + 25 * (x2.toInt + 12) + 625 * (x3.toInt + 12)); omega) | (have e9 : ¬ g.toInt = 3 := (by omega); rw [jcell_n e9, he17.eq]; (show _ = x1.toInt + 20 + 41 * (x2.toInt + 20)); omega))⟩, rfl⟩)
  · refine J_iload dX4_cellOf_28 rfl ?_
    refine J_aload_n dX4_cellOf_30 rfl ?_
    refine J_get jf_X4_51 dX4_cellOf_31 hO_a0 hF_sd ?_
    refine J_aload_n dX4_cellOf_34 rfl ?_
    refine J_get jf_X4_51 dX4_cellOf_35 hO_a0 hF_sd ?_
    have hm3 : sd.toInt = 25 → sd.toInt * sd.toInt = 625 := fun h => by rw [h]; rfl
    have hm4 : sd.toInt = 25 → sd.toInt * sd.toInt * (x3.toInt + R.toInt) = 625 * (x3.toInt + R.toInt) := fun h => by rw [h]; rfl
    refine Jz_imul jEq.rf jEq.rf dX4_cellOf_38 (by omega) (by omega) (fun y38 he38 => ?_)
    refine J_iload_n dX4_cellOf_39 rfl ?_
    refine J_aload_n dX4_cellOf_40 rfl ?_
    refine J_get jf_X4_48 dX4_cellOf_41 hO_a0 hF_R ?_
    refine Jz_iadd jEq.rf jEq.rf dX4_cellOf_44 (by omega) (by omega) (fun y44 he44 => ?_)
    refine Jz_imul he38 he44 dX4_cellOf_45 (by omega) (by omega) (fun y45 he45 => ?_)
    refine Jz_iadd he17 he45 dX4_cellOf_46 (by omega) (by omega) (fun y46 he46 => ?_)
    refine J_goto (tgt := 52) dX4_cellOf_47 (by decide) ?_
    exact J_ret (r := some (.int _)) dX4_cellOf_52 ⟨rfl, _, rfl, rfl⟩ (⟨⟨_, rfl, (j_rng _).1, (j_rng _).2, (by first | (have e9 : g.toInt = 3 := (by omega); rw [jcell_3 e9, he46.eq]; (show _ = x1.toInt + 12 + 25 * (x2.toInt + 12) + 625 * (x3.toInt + 12)); omega) | (have e9 : ¬ g.toInt = 3 := (by omega); rw [jcell_n e9, he17.eq]; (show _ = x1.toInt + 20 + 41 * (x2.toInt + 20)); omega))⟩, rfl⟩)
set_option maxRecDepth 100000 in
set_option maxHeartbeats 8000000 in
theorem w_X4_isTaken_z {tS : jTS} (d : Nat) (V0 : jH) {ln : Nat} (a0 : Nat) (x1 : Int32) (tk : Nat) (TK : Nat → Int32) (hd : 0 ≤ d) (hW : WT V0) (ha0 : jis V0 (.inr 2) a0) (hr_tk : jfR V0 a0 2 3 tk) (ha_TK : V0 tk = some (.inl (2, ln, .inl TK))) (hp0 : 0 ≤ x1.toInt) (hp1 : x1.toInt < (ln : Int)) (hp2 : (ln : Int) ≤ 20000) : jTot tS mX4_isTaken d [.ref a0, .int x1] V0 0 0 (fun r V => (fun r _ => ∃ y : Int32, r = some (.int y) ∧ (0 ≤ y.toInt) ∧ (y.toInt ≤ 1) ∧ ((y.toInt = 1 ∧ ¬ (TK x1.toInt.toNat).toInt = 0) ∨ (y.toInt = 0 ∧ (TK x1.toInt.toNat).toInt = 0))) r V ∧ V = V0) := by
  refine jTot.of_J [some (.ref a0), some (.int x1)] moX4_isTaken (Nat.le_of_ble_eq_true rfl) rfl ?_
  have hrx1 := j_rng x1
  have he : jeff [] V0 V0 := jeff.refl _ _
  obtain ⟨fs_a0, hO_a0, hK_a0⟩ := WT_obj hW id ha0
  have hF_tk := hr_tk.get hO_a0
  obtain ⟨w_tk, hFq_tk, b_tk, hbq_tk, hb_tk⟩ := hK_a0.2 3 (.inr (some (.inl 2))) rfl
  cases hF_tk.symm.trans (hFq_tk.trans (congrArg some hbq_tk))
  obtain ⟨hN_TK, hv_TK⟩ := WT_rngI (r := (0, 1)) hW id rfl ha_TK
  clear hN_TK
  refine J_iload_n dX4_isTaken_0 rfl ?_
  refine Jz_if_lt (tgt := 22) jEq.rf dX4_isTaken_1 (by decide) (fun c1 => ?_) (fun c1 => ?_)
  · refine Jz_iconst 1 dX4_isTaken_22 (by decide) (fun y22 he22 => ?_)
    refine J_goto (tgt := 27) dX4_isTaken_23 (by decide) ?_
    exact J_ret (r := some (.int _)) dX4_isTaken_27 ⟨rfl, _, rfl, (nar_b (by (try simp only [he22.eq, true_and, and_true]) <;> omega) (by (try simp only [he22.eq, true_and, and_true]) <;> omega))⟩ (⟨⟨_, rfl, (by (try simp only [he22.eq, true_and, and_true]) <;> omega), (by (try simp only [he22.eq, true_and, and_true]) <;> omega), (by (try simp only [he22.eq, true_and, and_true]) <;> omega)⟩, rfl⟩)
  · refine J_iload_n dX4_isTaken_4 rfl ?_
    refine J_aload_n dX4_isTaken_5 rfl ?_
    refine J_get jf_X4_54 dX4_isTaken_6 hO_a0 hF_tk ?_
    refine J_alen dX4_isTaken_9 ha_TK rfl rfl ?_
    have he9 : jEq (Int32.ofNat ln).toInt ln := nI_toInt (by omega)
    generalize Int32.ofNat ln = y9 at he9 ⊢
    refine Jz_icmp_ge (tgt := 22) jEq.rf he9 dX4_isTaken_10 (by decide) (fun c10 => ?_) (fun c10 => ?_)
    · refine Jz_iconst 1 dX4_isTaken_22 (by decide) (fun y22 he22 => ?_)
      refine J_goto (tgt := 27) dX4_isTaken_23 (by decide) ?_
      exact J_ret (r := some (.int _)) dX4_isTaken_27 ⟨rfl, _, rfl, (nar_b (by (try simp only [he22.eq, true_and, and_true]) <;> omega) (by (try simp only [he22.eq, true_and, and_true]) <;> omega))⟩ (⟨⟨_, rfl, (by (try simp only [he22.eq, true_and, and_true]) <;> omega), (by (try simp only [he22.eq, true_and, and_true]) <;> omega), (by (try simp only [he22.eq, true_and, and_true]) <;> omega)⟩, rfl⟩)
    · refine J_aload_n dX4_isTaken_13 rfl ?_
      refine J_get jf_X4_54 dX4_isTaken_14 hO_a0 hF_tk ?_
      refine J_iload_n dX4_isTaken_17 rfl ?_
      refine Jz_zald (r := (0, 1)) jEq.rf dX4_isTaken_18 ha_TK rfl hv_TK (by omega) (by omega) (fun y18 hf18 hl18 hh18 => ?_)
      dsimp only at hl18 hh18
      have hq18 : (TK x1.toInt.toNat).toInt = y18.toInt := by rw [hf18]
      refine Jz_if_eq (tgt := 26) jEq.rf dX4_isTaken_19 (by decide) (fun c19 => ?_) (fun c19 => ?_)
      · refine Jz_iconst 0 dX4_isTaken_26 (by decide) (fun y26 he26 => ?_)
        exact J_ret (r := some (.int _)) dX4_isTaken_27 ⟨rfl, _, rfl, (nar_b (by (try simp only [he26.eq, true_and, and_true]) <;> omega) (by (try simp only [he26.eq, true_and, and_true]) <;> omega))⟩ (⟨⟨_, rfl, (by (try simp only [he26.eq, true_and, and_true]) <;> omega), (by (try simp only [he26.eq, true_and, and_true]) <;> omega), (by (try simp only [he26.eq, true_and, and_true]) <;> omega)⟩, rfl⟩)
      · refine Jz_iconst 1 dX4_isTaken_22 (by decide) (fun y22 he22 => ?_)
        refine J_goto (tgt := 27) dX4_isTaken_23 (by decide) ?_
        exact J_ret (r := some (.int _)) dX4_isTaken_27 ⟨rfl, _, rfl, (nar_b (by (try simp only [he22.eq, true_and, and_true]) <;> omega) (by (try simp only [he22.eq, true_and, and_true]) <;> omega))⟩ (⟨⟨_, rfl, (by (try simp only [he22.eq, true_and, and_true]) <;> omega), (by (try simp only [he22.eq, true_and, and_true]) <;> omega), (by (try simp only [he22.eq, true_and, and_true]) <;> omega)⟩, rfl⟩)
set_option maxRecDepth 100000 in
set_option maxHeartbeats 8000000 in
theorem w_X4_setTaken_z {tS : jTS} (d : Nat) (V0 : jH) {ln : Nat} (a0 : Nat) (x1 : Int32) (x2 : Int32) (tk : Nat) (TK : Nat → Int32) (hd : 0 ≤ d) (hW : WT V0) (ha0 : jis V0 (.inr 2) a0) (hl2 : 0 ≤ x2.toInt) (hh2 : x2.toInt ≤ 1) (hr_tk : jfR V0 a0 2 3 tk) (ha_TK : V0 tk = some (.inl (2, ln, .inl TK))) (hp0 : 0 ≤ x1.toInt) (hp1 : x1.toInt < (ln : Int)) (hp2 : (ln : Int) ≤ 20000) : jTot tS mX4_setTaken d [.ref a0, .int x1, .int x2] V0 0 0 (fun r V => (jPost [.inl 2] V0 rV) r V ∧ (∃ TK2 : Nat → Int32, V tk = some (.inl (2, ln, .inl TK2)) ∧ TK2 x1.toInt.toNat = x2 ∧ ∀ j : Nat, j ≠ x1.toInt.toNat → TK2 j = TK j) ∧ jfp [tk] V0 V) := by
  refine jTot.of_J [some (.ref a0), some (.int x1), some (.int x2)] moX4_setTaken (Nat.le_of_ble_eq_true rfl) rfl ?_
  have hrx1 := j_rng x1
  have he : jeff [.inl 2] V0 V0 := jeff.refl _ _
  have hfp : jfp [tk] V0 V0 := jfp.rf
  obtain ⟨fs_a0, hO_a0, hK_a0⟩ := WT_obj hW id ha0
  have hF_tk := hr_tk.get hO_a0
  obtain ⟨w_tk, hFq_tk, b_tk, hbq_tk, hb_tk⟩ := hK_a0.2 3 (.inr (some (.inl 2))) rfl
  cases hF_tk.symm.trans (hFq_tk.trans (congrArg some hbq_tk))
  obtain ⟨hN_TK, hv_TK⟩ := WT_rngI (r := (0, 1)) hW id rfl ha_TK
  clear hN_TK
  refine J_iload_n dX4_setTaken_0 rfl ?_
  refine Jz_if_lt (tgt := 20) jEq.rf dX4_setTaken_1 (by decide) (fun c1 => (show False by omega).elim) (fun c1 => ?_)
  refine J_iload_n dX4_setTaken_4 rfl ?_
  refine J_aload_n dX4_setTaken_5 rfl ?_
  refine J_get jf_X4_54 dX4_setTaken_6 hO_a0 hF_tk ?_
  refine J_alen dX4_setTaken_9 ha_TK rfl rfl ?_
  have he9 : jEq (Int32.ofNat ln).toInt ln := nI_toInt (by omega)
  generalize Int32.ofNat ln = y9 at he9 ⊢
  refine Jz_icmp_ge (tgt := 20) jEq.rf he9 dX4_setTaken_10 (by decide) (fun c10 => (show False by omega).elim) (fun c10 => ?_)
  refine J_aload_n dX4_setTaken_13 rfl ?_
  refine J_get jf_X4_54 dX4_setTaken_14 hO_a0 hF_tk ?_
  refine J_iload_n dX4_setTaken_17 rfl ?_
  refine J_iload_n dX4_setTaken_18 rfl ?_
  refine Jz_zastB (r := (0, 1)) jEq.rf jEq.rf hW id dX4_setTaken_19 ha_TK rfl rfl (by omega) (by omega) (by omega) (by omega) (fun _ h => vp_nar_b (by omega) (by omega)) (fun V19 G19 hW hx19 hA19 hp19 ho19 hB19 => ?_)
  obtain ⟨hN19, hv19⟩ := WT_rngI (r := (0, 1)) hW id rfl hA19
  clear hN19
  have he := he.trans (hx19.sub (jsub_of rfl))
  have hfp := hfp.trans (jfp.one hB19 List.mem_cons_self)
  have ha0 := ha0.mono hx19.1
  have hb_tk := hb_tk.mono hx19.1
  have hO_a0 := hx19.2 _ _ hO_a0 (jnot_of rfl)
  have hK_a0 := hK_a0.mono hx19.1
  exact J_ret (r := none) dX4_setTaken_20 ⟨rfl, rfl⟩ (⟨⟨hW, he, rfl⟩, ⟨G19, hA19, hp19, ho19⟩, hfp⟩)
set_option maxRecDepth 100000 in
set_option maxHeartbeats 8000000 in
theorem w_X4_score_z {tS : jTS} (d : Nat) (V0 : jH) (a0 : Nat) (x1 : Int32) (x2 : Int32) (x3 : Int32) (x4 : Int32) (g : Int32) (R : Int32) (sd : Int32) (lv : Int32) (cd : Int32) (tg : Int32) (wc : Nat) (sq : Nat) (rc : Nat) (bc : Nat) (l : List jP3) (WC : Nat → Int32) (SQ : Nat → Int64) (RC : Nat → Int32) (BC : Nat → Int32) (hd : 2 ≤ d) (hW : WT V0) (ha0 : jis V0 (.inr 2) a0) (hf_g : jfI V0 a0 2 0 g) (hf_R : jfI V0 a0 2 1 R) (hf_sd : jfI V0 a0 2 2 sd) (hf_lv : jfI V0 a0 2 10 lv) (hf_cd : jfI V0 a0 2 11 cd) (hf_tg : jfI V0 a0 2 12 tg) (hr_wc : jfR V0 a0 2 4 wc) (hr_sq : jfR V0 a0 2 5 sq) (hr_rc : jfR V0 a0 2 6 rc) (hr_bc : jfR V0 a0 2 7 bc) (ha_WC : V0 wc = some (.inl (8, 21, .inl WC))) (ha_SQ : V0 sq = some (.inl (1, 21, .inr (.inl SQ)))) (ha_RC : V0 rc = some (.inl (37, 21, .inl RC))) (ha_BC : V0 bc = some (.inl (38, 21, .inl BC))) (hp0 : 0 ≤ g.toInt) (hp1 : g.toInt ≤ 3) (hp2 : 0 ≤ lv.toInt) (hp3 : lv.toInt ≤ 20) (hp4 : -20 ≤ x1.toInt) (hp5 : x1.toInt ≤ 20) (hp6 : -20 ≤ x2.toInt) (hp7 : x2.toInt ≤ 20) (hp8 : -20 ≤ x3.toInt) (hp9 : x3.toInt ≤ 20) (hp10 : 0 ≤ tg.toInt) (hp11 : tg.toInt ≤ 600000) (hp12 : 0 ≤ (WC lv.toInt.toNat).toInt) (hp13 : (WC lv.toInt.toNat).toInt ≤ 600000) (hp14 : l.headD (0, 0, 0) = (x1.toInt, x2.toInt, x3.toInt)) (hp15 : x4.toInt = x1.toInt ↔ (0 < x1.toInt ∧ jtp l = x1.toInt)) : jTot tS mX4_score d [.ref a0, .int x1, .int x2, .int x3, .int x4] V0 0 0 (fun r V => (jPost [.inr 2, .inl 1, .inl 8, .inl 37, .inl 38] V0 rV) r V ∧ (∃ (WC2 : Nat → Int32) (SQ2 : Nat → Int64) (RC2 BC2 : Nat → Int32) (sp2 : Int32), V wc = some (.inl (8, 21, .inl WC2)) ∧ V sq = some (.inl (1, 21, .inr (.inl SQ2))) ∧ V rc = some (.inl (37, 21, .inl RC2)) ∧ V bc = some (.inl (38, 21, .inl BC2)) ∧ jfI V a0 2 13 sp2 ∧ jac WC2 SQ2 RC2 BC2 lv.toInt.toNat = jsc g.toInt l (jac WC SQ RC BC lv.toInt.toNat) ∧ (WC2 lv.toInt.toNat).toInt = (WC lv.toInt.toNat).toInt + 1 ∧ ((sp2.toInt = 1 ∧ 600000 < tg.toInt + (WC2 lv.toInt.toNat).toInt) ∨ (sp2.toInt = 0 ∧ ¬ 600000 < tg.toInt + (WC2 lv.toInt.toNat).toInt)) ∧ jot WC2 SQ2 RC2 BC2 WC SQ RC BC lv.toInt.toNat) ∧ jfp [a0, wc, sq, rc, bc] V0 V ∧ (∃ g2 : Int32, jfI V a0 2 0 g2 ∧ (g2.toInt = g.toInt)) ∧ (∃ R2 : Int32, jfI V a0 2 1 R2 ∧ (R2.toInt = R.toInt)) ∧ (∃ sd2 : Int32, jfI V a0 2 2 sd2 ∧ (sd2.toInt = sd.toInt)) ∧ (∃ lv2 : Int32, jfI V a0 2 10 lv2 ∧ (lv2.toInt = lv.toInt)) ∧ (∃ cd2 : Int32, jfI V a0 2 11 cd2 ∧ (cd2.toInt = cd.toInt)) ∧ (∃ tg2 : Int32, jfI V a0 2 12 tg2 ∧ (tg2.toInt = tg.toInt))) := by
  refine jTot.of_J [some (.ref a0), some (.int x1), some (.int x2), some (.int x3), some (.int x4)] moX4_score (Nat.le_of_ble_eq_true rfl) rfl ?_
  have hrx1 := j_rng x1
  have hrx2 := j_rng x2
  have hrx3 := j_rng x3
  have hrx4 := j_rng x4
  have he : jeff [.inr 2, .inl 1, .inl 8, .inl 37, .inl 38] V0 V0 := jeff.refl _ _
  have hfp : jfp [a0, wc, sq, rc, bc] V0 V0 := jfp.rf
  obtain ⟨fs_a0, hO_a0, hK_a0⟩ := WT_obj hW id ha0
  have hF_g := hf_g.get hO_a0
  have hrg : (-2147483648) ≤ g.toInt ∧ g.toInt ≤ 2147483647 := jok_rngI hK_a0 rfl hF_g
  have hF_R := hf_R.get hO_a0
  have hrR : 0 ≤ R.toInt ∧ R.toInt ≤ 20 := jok_rngI hK_a0 rfl hF_R
  have hF_sd := hf_sd.get hO_a0
  have hrsd : (-2147483648) ≤ sd.toInt ∧ sd.toInt ≤ 2147483647 := jok_rngI hK_a0 rfl hF_sd
  have hF_lv := hf_lv.get hO_a0
  have hrlv : 0 ≤ lv.toInt ∧ lv.toInt ≤ 20 := jok_rngI hK_a0 rfl hF_lv
  have hF_cd := hf_cd.get hO_a0
  have hrcd : 0 ≤ cd.toInt ∧ cd.toInt ≤ 20 := jok_rngI hK_a0 rfl hF_cd
  have hF_tg := hf_tg.get hO_a0
  have hrtg : (-2147483648) ≤ tg.toInt ∧ tg.toInt ≤ 2147483647 := jok_rngI hK_a0 rfl hF_tg
  have hF_wc := hr_wc.get hO_a0
  obtain ⟨w_wc, hFq_wc, b_wc, hbq_wc, hb_wc⟩ := hK_a0.2 4 (.inr (some (.inl 8))) rfl
  cases hF_wc.symm.trans (hFq_wc.trans (congrArg some hbq_wc))
  have hF_sq := hr_sq.get hO_a0
  obtain ⟨w_sq, hFq_sq, b_sq, hbq_sq, hb_sq⟩ := hK_a0.2 5 (.inr (some (.inl 1))) rfl
  cases hF_sq.symm.trans (hFq_sq.trans (congrArg some hbq_sq))
  have hF_rc := hr_rc.get hO_a0
  obtain ⟨w_rc, hFq_rc, b_rc, hbq_rc, hb_rc⟩ := hK_a0.2 6 (.inr (some (.inl 37))) rfl
  cases hF_rc.symm.trans (hFq_rc.trans (congrArg some hbq_rc))
  have hF_bc := hr_bc.get hO_a0
  obtain ⟨w_bc, hFq_bc, b_bc, hbq_bc, hb_bc⟩ := hK_a0.2 7 (.inr (some (.inl 38))) rfl
  cases hF_bc.symm.trans (hFq_bc.trans (congrArg some hbq_bc))
  obtain ⟨hN_WC, hv_WC⟩ := WT_rngI (r := ((-2147483648), 2147483647)) hW id rfl ha_WC
  clear hN_WC
  obtain ⟨hN_RC, hv_RC⟩ := WT_rngI (r := ((-2147483648), 2147483647)) hW id rfl ha_RC
  clear hN_RC
  obtain ⟨hN_BC, hv_BC⟩ := WT_rngI (r := ((-2147483648), 2147483647)) hW id rfl ha_BC
  clear hN_BC
  refine J_aload_n dX4_score_0 rfl ?_
  refine J_get jf_X4_31 dX4_score_1 hO_a0 hF_lv ?_
  refine Jz_if_lt (tgt := 55) jEq.rf dX4_score_4 (by decide) (fun c4 => ?_) (fun c4 => ?_)
  · exact False.elim (by omega)
  · refine J_aload_n dX4_score_7 rfl ?_
    refine J_get jf_X4_31 dX4_score_8 hO_a0 hF_lv ?_
    refine J_aload_n dX4_score_11 rfl ?_
    refine J_get jf_X4_9 dX4_score_12 hO_a0 hF_wc ?_
    refine J_alen dX4_score_15 ha_WC rfl rfl ?_
    have he15 : jEq (Int32.ofNat 21).toInt 21 := nI_toInt (by decide)
    generalize Int32.ofNat 21 = y15 at he15 ⊢
    refine Jz_icmp_ge (tgt := 55) jEq.rf he15 dX4_score_16 (by decide) (fun c16 => ?_) (fun c16 => ?_)
    · exact False.elim (by omega)
    · refine J_aload_n dX4_score_19 rfl ?_
      refine J_get jf_X4_31 dX4_score_20 hO_a0 hF_lv ?_
      refine J_aload_n dX4_score_23 rfl ?_
      refine J_get jf_X4_15 dX4_score_24 hO_a0 hF_sq ?_
      refine J_alen dX4_score_27 ha_SQ rfl rfl ?_
      have he27 : jEq (Int32.ofNat 21).toInt 21 := nI_toInt (by decide)
      generalize Int32.ofNat 21 = y27 at he27 ⊢
      refine Jz_icmp_ge (tgt := 55) jEq.rf he27 dX4_score_28 (by decide) (fun c28 => ?_) (fun c28 => ?_)
      · exact False.elim (by omega)
      · refine J_aload_n dX4_score_31 rfl ?_
        refine J_get jf_X4_31 dX4_score_32 hO_a0 hF_lv ?_
        refine J_aload_n dX4_score_35 rfl ?_
        refine J_get jf_X4_19 dX4_score_36 hO_a0 hF_rc ?_
        refine J_alen dX4_score_39 ha_RC rfl rfl ?_
        have he39 : jEq (Int32.ofNat 21).toInt 21 := nI_toInt (by decide)
        generalize Int32.ofNat 21 = y39 at he39 ⊢
        refine Jz_icmp_ge (tgt := 55) jEq.rf he39 dX4_score_40 (by decide) (fun c40 => ?_) (fun c40 => ?_)
        · exact False.elim (by omega)
        · refine J_aload_n dX4_score_43 rfl ?_
          refine J_get jf_X4_31 dX4_score_44 hO_a0 hF_lv ?_
          refine J_aload_n dX4_score_47 rfl ?_
          refine J_get jf_X4_22 dX4_score_48 hO_a0 hF_bc ?_
          refine J_alen dX4_score_51 ha_BC rfl rfl ?_
          have he51 : jEq (Int32.ofNat 21).toInt 21 := nI_toInt (by decide)
          generalize Int32.ofNat 21 = y51 at he51 ⊢
          refine Jz_icmp_lt (tgt := 56) jEq.rf he51 dX4_score_52 (by decide) (fun c52 => ?_) (fun c52 => ?_)
          · refine J_aload_n dX4_score_56 rfl ?_
            refine J_get jf_X4_9 dX4_score_57 hO_a0 hF_wc ?_
            refine J_aload_n dX4_score_60 rfl ?_
            refine J_get jf_X4_31 dX4_score_61 hO_a0 hF_lv ?_
            refine J_dup2 dX4_score_64 rfl rfl ?_
            refine Jz_iald (r := ((-2147483648), 2147483647)) jEq.rf dX4_score_65 ha_WC rfl hv_WC (by omega) (by omega) (fun y65 hf65 hl65 hh65 => ?_)
            dsimp only at hl65 hh65
            clear hl65 hh65
            have hq65 : (WC lv.toInt.toNat).toInt = y65.toInt := by rw [hf65]
            refine Jz_iconst 1 dX4_score_66 (by decide) (fun y66 he66 => ?_)
            refine Jz_iadd jEq.rf he66 dX4_score_67 (by omega) (by omega) (fun y67 he67 => ?_)
            refine Jz_iastB (r := ((-2147483648), 2147483647)) jEq.rf he67 hW id dX4_score_68 ha_WC rfl rfl (by omega) (by omega) (by omega) (by omega) (fun V68 G68 hW hx68 hA68 hp68 ho68 hB68 => ?_)
            obtain ⟨hN68, hv68⟩ := WT_rngI (r := ((-2147483648), 2147483647)) hW id rfl hA68
            clear hN68
            have he := he.trans (hx68.sub (jsub_of rfl))
            have hfp := hfp.trans (jfp.one hB68 (List.mem_cons_of_mem _ List.mem_cons_self))
            have ha0 := ha0.mono hx68.1
            have hb_wc := hb_wc.mono hx68.1
            have hb_sq := hb_sq.mono hx68.1
            have hb_rc := hb_rc.mono hx68.1
            have hb_bc := hb_bc.mono hx68.1
            have hO_a0 := hx68.2 _ _ hO_a0 (jnot_of rfl)
            have hK_a0 := hK_a0.mono hx68.1
            have ha_SQ := hx68.2 _ _ ha_SQ (jnot_of rfl)
            have ha_RC := hx68.2 _ _ ha_RC (jnot_of rfl)
            have ha_BC := hx68.2 _ _ ha_BC (jnot_of rfl)
            refine J_aload_n dX4_score_69 rfl ?_
            refine J_get jf_X4_15 dX4_score_70 hO_a0 hF_sq ?_
            refine J_aload_n dX4_score_73 rfl ?_
            refine J_get jf_X4_31 dX4_score_74 hO_a0 hF_lv ?_
            refine J_dup2 dX4_score_77 rfl rfl ?_
            refine Jz_laldx jEq.rf dX4_score_78 ha_SQ rfl (by omega) (by omega) ?_
            refine J_aload_n dX4_score_79 rfl ?_
            refine J_get jf_X4_45 dX4_score_80 hO_a0 hF_g ?_
            refine J_iload_n dX4_score_83 rfl ?_
            refine J_iload_n dX4_score_84 rfl ?_
            refine J_iload_n dX4_score_85 rfl ?_
            refine J_callS4 moX0_square jw_ml_X4_108 jw_st_X0_square dX4_score_86 (w_X0_square_z (d - 1) _ g x1 x2 x3 (by omega)   (by omega) (by omega) (by omega) (by omega) (by omega) (by omega)) (by omega) (Nat.zero_le _) (Nat.zero_le _) (Nat.le_of_ble_eq_true rfl) (fun r86 V86 h86 => ?_)
            obtain ⟨⟨y86, rfl, hl86, hh86, hP86_0⟩, hE86⟩ := h86
            have hE86 := hE86.symm
            subst hE86
            clear hl86 hh86
            have hz86 : jEq y86.toInt (jsq (g.toInt) (x1.toInt) (x2.toInt) (x3.toInt)) := hP86_0
            clear hP86_0
            refine J_i2l dX4_score_89 rfl ?_
            refine J_ladd dX4_score_90 ?_
            refine Jz_lastB jEq.rf hW id dX4_score_91 ha_SQ rfl rfl (by omega) (by omega) (fun V91 G91 hW hx91 hA91 hp91 ho91 hB91 => ?_)
            have he := he.trans (hx91.sub (jsub_of rfl))
            have hfp := hfp.trans (jfp.one hB91 (List.mem_cons_of_mem _ (List.mem_cons_of_mem _ List.mem_cons_self)))
            have ha0 := ha0.mono hx91.1
            have hb_wc := hb_wc.mono hx91.1
            have hb_sq := hb_sq.mono hx91.1
            have hb_rc := hb_rc.mono hx91.1
            have hb_bc := hb_bc.mono hx91.1
            have hO_a0 := hx91.2 _ _ hO_a0 (jnot_of rfl)
            have hK_a0 := hK_a0.mono hx91.1
            have ha_RC := hx91.2 _ _ ha_RC (jnot_of rfl)
            have ha_BC := hx91.2 _ _ ha_BC (jnot_of rfl)
            have hA68 := hx91.2 _ _ hA68 (jnot_of rfl)
            refine J_aload_n dX4_score_92 rfl ?_
            refine J_get jf_X4_45 dX4_score_93 hO_a0 hF_g ?_
            refine J_iload_n dX4_score_96 rfl ?_
            refine J_iload_n dX4_score_97 rfl ?_
            refine J_iload_n dX4_score_98 rfl ?_
            refine J_callS4 moX0_isBesideBeginning jw_ml_X4_111 jw_st_X0_isBesideBeginning dX4_score_99 (w_X0_isBesideBeginning_z (d - 1) _ g x1 x2 x3 (by omega)   (by omega) (by omega) (by omega) (by omega) (by omega) (by omega)) (by omega) (Nat.zero_le _) (Nat.zero_le _) (Nat.le_of_ble_eq_true rfl) (fun r99 V99 h99 => ?_)
            obtain ⟨⟨y99, rfl, hl99, hh99, hP99_0⟩, hE99⟩ := h99
            have hE99 := hE99.symm
            subst hE99
            refine Jz_if_eq (tgt := 118) jEq.rf dX4_score_102 (by decide) (fun c102 => ?_) (fun c102 => ?_)
            · refine J_iload dX4_score_118 rfl ?_
              refine J_iload_n dX4_score_120 rfl ?_
              refine Jz_icmp_ne (tgt := 137) jEq.rf jEq.rf dX4_score_121 (by decide) (fun c121 => ?_) (fun c121 => ?_)
              · refine J_aload_n dX4_score_137 rfl ?_
                refine J_aload_n dX4_score_138 rfl ?_
                refine J_get jf_X4_38 dX4_score_139 hO_a0 hF_tg ?_
                refine J_aload_n dX4_score_142 rfl ?_
                refine J_get jf_X4_9 dX4_score_143 hO_a0 hF_wc ?_
                refine J_aload_n dX4_score_146 rfl ?_
                refine J_get jf_X4_31 dX4_score_147 hO_a0 hF_lv ?_
                refine Jz_iald (r := ((-2147483648), 2147483647)) jEq.rf dX4_score_150 hA68 rfl hv68 (by omega) (by omega) (fun y150 hf150 hl150 hh150 => ?_)
                dsimp only at hl150 hh150
                clear hl150 hh150
                have he150 : jEq y150.toInt (y65.toInt + 1) := by rw [← hf150, hp68]; exact he67
                refine Jz_iadd jEq.rf he150 dX4_score_151 (by omega) (by omega) (fun y151 he151 => ?_)
                refine Jz_ldc 600000 jw_k_X4_115 dX4_score_152 (by decide) (fun y152 he152 => ?_)
                refine Jz_icmp_le (tgt := 161) he151 he152 dX4_score_154 (by decide) (fun c154 => ?_) (fun c154 => ?_)
                · refine Jz_iconst 0 dX4_score_161 (by decide) (fun y161 he161 => ?_)
                  refine Jz_putI hO_a0 hW id rfl jf_X4_41 jt_X4_13 he161 dX4_score_162 (by omega) (by omega) (fun _ h => ⟨nar_b (by omega) (by omega), fit_b (by omega) (by omega)⟩) (fun V162 fs162 hW hx162 hO162 hS162 hT162 hB162 => ?_)
                  have hK162 : jokO _ (jFs 2) fs162 := hW _ _ id hO162
                  have hF162_0 := (hT162 0 (by decide)).trans hF_g
                  have hF162_1 := (hT162 1 (by decide)).trans hF_R
                  have hF162_2 := (hT162 2 (by decide)).trans hF_sd
                  have hF162_10 := (hT162 10 (by decide)).trans hF_lv
                  have hF162_11 := (hT162 11 (by decide)).trans hF_cd
                  have hF162_12 := (hT162 12 (by decide)).trans hF_tg
                  have hF162_4 := (hT162 4 (by decide)).trans hF_wc
                  have hF162_5 := (hT162 5 (by decide)).trans hF_sq
                  have hF162_6 := (hT162 6 (by decide)).trans hF_rc
                  have hF162_7 := (hT162 7 (by decide)).trans hF_bc
                  have he := he.trans (hx162.sub (jsub_of rfl))
                  have hfp := hfp.trans (jfp.one hB162 List.mem_cons_self)
                  have ha0 := ha0.mono hx162.1
                  have hb_wc := hb_wc.mono hx162.1
                  have hb_sq := hb_sq.mono hx162.1
                  have hb_rc := hb_rc.mono hx162.1
                  have hb_bc := hb_bc.mono hx162.1
                  have ha_RC := hx162.2 _ _ ha_RC (jnot_of rfl)
                  have ha_BC := hx162.2 _ _ ha_BC (jnot_of rfl)
                  have hA68 := hx162.2 _ _ hA68 (jnot_of rfl)
                  have hA91 := hx162.2 _ _ hA91 (jnot_of rfl)
                  exact J_ret (r := none) dX4_score_165 ⟨rfl, rfl⟩ (⟨⟨hW, he, rfl⟩, ⟨G68, G91, RC, BC, y161, hA68, hA91, ha_RC, ha_BC, ⟨_, hO162, hS162⟩, (jsc_mk hp14 hp12 (by rw [hp68, he67.eq]; omega) hz86.eq hp91 (by first | exact Or.inl ⟨(hP99_0.elim (fun q => q.2) (fun q => absurd q.1 c102)), (hp117.trans (by rw [← hf114, show y115 = 1 from jI_inj.mp (he115.eq.trans rfl)]))⟩ | exact Or.inr ⟨(hP99_0.elim (fun q => absurd q.1 (by omega)) (fun q => q.2)), rfl⟩) (by first | exact Or.inl ⟨hp15.mp (by omega), (hp136.trans (by rw [← hf133, show y134 = 1 from jI_inj.mp (he134.eq.trans rfl)]))⟩ | exact Or.inr ⟨fun z => absurd (hp15.mpr z) (by omega), rfl⟩)), (by rw [hp68, he67.eq]; omega), (by first | (rw [he157.eq, hp68, he67.eq]; omega) | (rw [he161.eq, hp68, he67.eq]; omega)), (fun j hj => ⟨ho68 j hj, ho91 j hj, (by first | exact ho117 j hj | rfl), (by first | exact ho136 j hj | rfl)⟩)⟩, hfp, ⟨_, ⟨_, hO162, hF162_0⟩, (by omega)⟩, ⟨_, ⟨_, hO162, hF162_1⟩, (by omega)⟩, ⟨_, ⟨_, hO162, hF162_2⟩, (by omega)⟩, ⟨_, ⟨_, hO162, hF162_10⟩, (by omega)⟩, ⟨_, ⟨_, hO162, hF162_11⟩, (by omega)⟩, ⟨_, ⟨_, hO162, hF162_12⟩, (by omega)⟩⟩)
                · refine Jz_iconst 1 dX4_score_157 (by decide) (fun y157 he157 => ?_)
                  refine J_goto (tgt := 162) dX4_score_158 (by decide) ?_
                  refine Jz_putI hO_a0 hW id rfl jf_X4_41 jt_X4_13 he157 dX4_score_162 (by omega) (by omega) (fun _ h => ⟨nar_b (by omega) (by omega), fit_b (by omega) (by omega)⟩) (fun V162 fs162 hW hx162 hO162 hS162 hT162 hB162 => ?_)
                  have hK162 : jokO _ (jFs 2) fs162 := hW _ _ id hO162
                  have hF162_0 := (hT162 0 (by decide)).trans hF_g
                  have hF162_1 := (hT162 1 (by decide)).trans hF_R
                  have hF162_2 := (hT162 2 (by decide)).trans hF_sd
                  have hF162_10 := (hT162 10 (by decide)).trans hF_lv
                  have hF162_11 := (hT162 11 (by decide)).trans hF_cd
                  have hF162_12 := (hT162 12 (by decide)).trans hF_tg
                  have hF162_4 := (hT162 4 (by decide)).trans hF_wc
                  have hF162_5 := (hT162 5 (by decide)).trans hF_sq
                  have hF162_6 := (hT162 6 (by decide)).trans hF_rc
                  have hF162_7 := (hT162 7 (by decide)).trans hF_bc
                  have he := he.trans (hx162.sub (jsub_of rfl))
                  have hfp := hfp.trans (jfp.one hB162 List.mem_cons_self)
                  have ha0 := ha0.mono hx162.1
                  have hb_wc := hb_wc.mono hx162.1
                  have hb_sq := hb_sq.mono hx162.1
                  have hb_rc := hb_rc.mono hx162.1
                  have hb_bc := hb_bc.mono hx162.1
                  have ha_RC := hx162.2 _ _ ha_RC (jnot_of rfl)
                  have ha_BC := hx162.2 _ _ ha_BC (jnot_of rfl)
                  have hA68 := hx162.2 _ _ hA68 (jnot_of rfl)
                  have hA91 := hx162.2 _ _ hA91 (jnot_of rfl)
                  exact J_ret (r := none) dX4_score_165 ⟨rfl, rfl⟩ (⟨⟨hW, he, rfl⟩, ⟨G68, G91, RC, BC, y157, hA68, hA91, ha_RC, ha_BC, ⟨_, hO162, hS162⟩, (jsc_mk hp14 hp12 (by rw [hp68, he67.eq]; omega) hz86.eq hp91 (by first | exact Or.inl ⟨(hP99_0.elim (fun q => q.2) (fun q => absurd q.1 c102)), (hp117.trans (by rw [← hf114, show y115 = 1 from jI_inj.mp (he115.eq.trans rfl)]))⟩ | exact Or.inr ⟨(hP99_0.elim (fun q => absurd q.1 (by omega)) (fun q => q.2)), rfl⟩) (by first | exact Or.inl ⟨hp15.mp (by omega), (hp136.trans (by rw [← hf133, show y134 = 1 from jI_inj.mp (he134.eq.trans rfl)]))⟩ | exact Or.inr ⟨fun z => absurd (hp15.mpr z) (by omega), rfl⟩)), (by rw [hp68, he67.eq]; omega), (by first | (rw [he157.eq, hp68, he67.eq]; omega) | (rw [he161.eq, hp68, he67.eq]; omega)), (fun j hj => ⟨ho68 j hj, ho91 j hj, (by first | exact ho117 j hj | rfl), (by first | exact ho136 j hj | rfl)⟩)⟩, hfp, ⟨_, ⟨_, hO162, hF162_0⟩, (by omega)⟩, ⟨_, ⟨_, hO162, hF162_1⟩, (by omega)⟩, ⟨_, ⟨_, hO162, hF162_2⟩, (by omega)⟩, ⟨_, ⟨_, hO162, hF162_10⟩, (by omega)⟩, ⟨_, ⟨_, hO162, hF162_11⟩, (by omega)⟩, ⟨_, ⟨_, hO162, hF162_12⟩, (by omega)⟩⟩)
              · refine J_aload_n dX4_score_124 rfl ?_
                refine J_get jf_X4_22 dX4_score_125 hO_a0 hF_bc ?_
                refine J_aload_n dX4_score_128 rfl ?_
                refine J_get jf_X4_31 dX4_score_129 hO_a0 hF_lv ?_
                refine J_dup2 dX4_score_132 rfl rfl ?_
                refine Jz_iald (r := ((-2147483648), 2147483647)) jEq.rf dX4_score_133 ha_BC rfl hv_BC (by omega) (by omega) (fun y133 hf133 hl133 hh133 => ?_)
                dsimp only at hl133 hh133
                clear hl133 hh133
                refine Jz_iconst 1 dX4_score_134 (by decide) (fun y134 he134 => ?_)
                refine J_iadd dX4_score_135 ?_
                refine Jz_iastB (r := ((-2147483648), 2147483647)) jEq.rf jEq.rf hW id dX4_score_136 ha_BC rfl rfl (by omega) (by omega) (j_rng _).1 (j_rng _).2 (fun V136 G136 hW hx136 hA136 hp136 ho136 hB136 => ?_)
                obtain ⟨hN136, hv136⟩ := WT_rngI (r := ((-2147483648), 2147483647)) hW id rfl hA136
                clear hN136
                have he := he.trans (hx136.sub (jsub_of rfl))
                have hfp := hfp.trans (jfp.one hB136 (List.mem_cons_of_mem _ (List.mem_cons_of_mem _ (List.mem_cons_of_mem _ (List.mem_cons_of_mem _ List.mem_cons_self)))))
                have ha0 := ha0.mono hx136.1
                have hb_wc := hb_wc.mono hx136.1
                have hb_sq := hb_sq.mono hx136.1
                have hb_rc := hb_rc.mono hx136.1
                have hb_bc := hb_bc.mono hx136.1
                have hO_a0 := hx136.2 _ _ hO_a0 (jnot_of rfl)
                have hK_a0 := hK_a0.mono hx136.1
                have ha_RC := hx136.2 _ _ ha_RC (jnot_of rfl)
                have hA68 := hx136.2 _ _ hA68 (jnot_of rfl)
                have hA91 := hx136.2 _ _ hA91 (jnot_of rfl)
                refine J_aload_n dX4_score_137 rfl ?_
                refine J_aload_n dX4_score_138 rfl ?_
                refine J_get jf_X4_38 dX4_score_139 hO_a0 hF_tg ?_
                refine J_aload_n dX4_score_142 rfl ?_
                refine J_get jf_X4_9 dX4_score_143 hO_a0 hF_wc ?_
                refine J_aload_n dX4_score_146 rfl ?_
                refine J_get jf_X4_31 dX4_score_147 hO_a0 hF_lv ?_
                refine Jz_iald (r := ((-2147483648), 2147483647)) jEq.rf dX4_score_150 hA68 rfl hv68 (by omega) (by omega) (fun y150 hf150 hl150 hh150 => ?_)
                dsimp only at hl150 hh150
                clear hl150 hh150
                have he150 : jEq y150.toInt (y65.toInt + 1) := by rw [← hf150, hp68]; exact he67
                refine Jz_iadd jEq.rf he150 dX4_score_151 (by omega) (by omega) (fun y151 he151 => ?_)
                refine Jz_ldc 600000 jw_k_X4_115 dX4_score_152 (by decide) (fun y152 he152 => ?_)
                refine Jz_icmp_le (tgt := 161) he151 he152 dX4_score_154 (by decide) (fun c154 => ?_) (fun c154 => ?_)
                · refine Jz_iconst 0 dX4_score_161 (by decide) (fun y161 he161 => ?_)
                  refine Jz_putI hO_a0 hW id rfl jf_X4_41 jt_X4_13 he161 dX4_score_162 (by omega) (by omega) (fun _ h => ⟨nar_b (by omega) (by omega), fit_b (by omega) (by omega)⟩) (fun V162 fs162 hW hx162 hO162 hS162 hT162 hB162 => ?_)
                  have hK162 : jokO _ (jFs 2) fs162 := hW _ _ id hO162
                  have hF162_0 := (hT162 0 (by decide)).trans hF_g
                  have hF162_1 := (hT162 1 (by decide)).trans hF_R
                  have hF162_2 := (hT162 2 (by decide)).trans hF_sd
                  have hF162_10 := (hT162 10 (by decide)).trans hF_lv
                  have hF162_11 := (hT162 11 (by decide)).trans hF_cd
                  have hF162_12 := (hT162 12 (by decide)).trans hF_tg
                  have hF162_4 := (hT162 4 (by decide)).trans hF_wc
                  have hF162_5 := (hT162 5 (by decide)).trans hF_sq
                  have hF162_6 := (hT162 6 (by decide)).trans hF_rc
                  have hF162_7 := (hT162 7 (by decide)).trans hF_bc
                  have he := he.trans (hx162.sub (jsub_of rfl))
                  have hfp := hfp.trans (jfp.one hB162 List.mem_cons_self)
                  have ha0 := ha0.mono hx162.1
                  have hb_wc := hb_wc.mono hx162.1
                  have hb_sq := hb_sq.mono hx162.1
                  have hb_rc := hb_rc.mono hx162.1
                  have hb_bc := hb_bc.mono hx162.1
                  have ha_RC := hx162.2 _ _ ha_RC (jnot_of rfl)
                  have hA68 := hx162.2 _ _ hA68 (jnot_of rfl)
                  have hA91 := hx162.2 _ _ hA91 (jnot_of rfl)
                  have hA136 := hx162.2 _ _ hA136 (jnot_of rfl)
                  exact J_ret (r := none) dX4_score_165 ⟨rfl, rfl⟩ (⟨⟨hW, he, rfl⟩, ⟨G68, G91, RC, G136, y161, hA68, hA91, ha_RC, hA136, ⟨_, hO162, hS162⟩, (jsc_mk hp14 hp12 (by rw [hp68, he67.eq]; omega) hz86.eq hp91 (by first | exact Or.inl ⟨(hP99_0.elim (fun q => q.2) (fun q => absurd q.1 c102)), (hp117.trans (by rw [← hf114, show y115 = 1 from jI_inj.mp (he115.eq.trans rfl)]))⟩ | exact Or.inr ⟨(hP99_0.elim (fun q => absurd q.1 (by omega)) (fun q => q.2)), rfl⟩) (by first | exact Or.inl ⟨hp15.mp (by omega), (hp136.trans (by rw [← hf133, show y134 = 1 from jI_inj.mp (he134.eq.trans rfl)]))⟩ | exact Or.inr ⟨fun z => absurd (hp15.mpr z) (by omega), rfl⟩)), (by rw [hp68, he67.eq]; omega), (by first | (rw [he157.eq, hp68, he67.eq]; omega) | (rw [he161.eq, hp68, he67.eq]; omega)), (fun j hj => ⟨ho68 j hj, ho91 j hj, (by first | exact ho117 j hj | rfl), (by first | exact ho136 j hj | rfl)⟩)⟩, hfp, ⟨_, ⟨_, hO162, hF162_0⟩, (by omega)⟩, ⟨_, ⟨_, hO162, hF162_1⟩, (by omega)⟩, ⟨_, ⟨_, hO162, hF162_2⟩, (by omega)⟩, ⟨_, ⟨_, hO162, hF162_10⟩, (by omega)⟩, ⟨_, ⟨_, hO162, hF162_11⟩, (by omega)⟩, ⟨_, ⟨_, hO162, hF162_12⟩, (by omega)⟩⟩)
                · refine Jz_iconst 1 dX4_score_157 (by decide) (fun y157 he157 => ?_)
                  refine J_goto (tgt := 162) dX4_score_158 (by decide) ?_
                  refine Jz_putI hO_a0 hW id rfl jf_X4_41 jt_X4_13 he157 dX4_score_162 (by omega) (by omega) (fun _ h => ⟨nar_b (by omega) (by omega), fit_b (by omega) (by omega)⟩) (fun V162 fs162 hW hx162 hO162 hS162 hT162 hB162 => ?_)
                  have hK162 : jokO _ (jFs 2) fs162 := hW _ _ id hO162
                  have hF162_0 := (hT162 0 (by decide)).trans hF_g
                  have hF162_1 := (hT162 1 (by decide)).trans hF_R
                  have hF162_2 := (hT162 2 (by decide)).trans hF_sd
                  have hF162_10 := (hT162 10 (by decide)).trans hF_lv
                  have hF162_11 := (hT162 11 (by decide)).trans hF_cd
                  have hF162_12 := (hT162 12 (by decide)).trans hF_tg
                  have hF162_4 := (hT162 4 (by decide)).trans hF_wc
                  have hF162_5 := (hT162 5 (by decide)).trans hF_sq
                  have hF162_6 := (hT162 6 (by decide)).trans hF_rc
                  have hF162_7 := (hT162 7 (by decide)).trans hF_bc
                  have he := he.trans (hx162.sub (jsub_of rfl))
                  have hfp := hfp.trans (jfp.one hB162 List.mem_cons_self)
                  have ha0 := ha0.mono hx162.1
                  have hb_wc := hb_wc.mono hx162.1
                  have hb_sq := hb_sq.mono hx162.1
                  have hb_rc := hb_rc.mono hx162.1
                  have hb_bc := hb_bc.mono hx162.1
                  have ha_RC := hx162.2 _ _ ha_RC (jnot_of rfl)
                  have hA68 := hx162.2 _ _ hA68 (jnot_of rfl)
                  have hA91 := hx162.2 _ _ hA91 (jnot_of rfl)
                  have hA136 := hx162.2 _ _ hA136 (jnot_of rfl)
                  exact J_ret (r := none) dX4_score_165 ⟨rfl, rfl⟩ (⟨⟨hW, he, rfl⟩, ⟨G68, G91, RC, G136, y157, hA68, hA91, ha_RC, hA136, ⟨_, hO162, hS162⟩, (jsc_mk hp14 hp12 (by rw [hp68, he67.eq]; omega) hz86.eq hp91 (by first | exact Or.inl ⟨(hP99_0.elim (fun q => q.2) (fun q => absurd q.1 c102)), (hp117.trans (by rw [← hf114, show y115 = 1 from jI_inj.mp (he115.eq.trans rfl)]))⟩ | exact Or.inr ⟨(hP99_0.elim (fun q => absurd q.1 (by omega)) (fun q => q.2)), rfl⟩) (by first | exact Or.inl ⟨hp15.mp (by omega), (hp136.trans (by rw [← hf133, show y134 = 1 from jI_inj.mp (he134.eq.trans rfl)]))⟩ | exact Or.inr ⟨fun z => absurd (hp15.mpr z) (by omega), rfl⟩)), (by rw [hp68, he67.eq]; omega), (by first | (rw [he157.eq, hp68, he67.eq]; omega) | (rw [he161.eq, hp68, he67.eq]; omega)), (fun j hj => ⟨ho68 j hj, ho91 j hj, (by first | exact ho117 j hj | rfl), (by first | exact ho136 j hj | rfl)⟩)⟩, hfp, ⟨_, ⟨_, hO162, hF162_0⟩, (by omega)⟩, ⟨_, ⟨_, hO162, hF162_1⟩, (by omega)⟩, ⟨_, ⟨_, hO162, hF162_2⟩, (by omega)⟩, ⟨_, ⟨_, hO162, hF162_10⟩, (by omega)⟩, ⟨_, ⟨_, hO162, hF162_11⟩, (by omega)⟩, ⟨_, ⟨_, hO162, hF162_12⟩, (by omega)⟩⟩)
            · refine J_aload_n dX4_score_105 rfl ?_
              refine J_get jf_X4_19 dX4_score_106 hO_a0 hF_rc ?_
              refine J_aload_n dX4_score_109 rfl ?_
              refine J_get jf_X4_31 dX4_score_110 hO_a0 hF_lv ?_
              refine J_dup2 dX4_score_113 rfl rfl ?_
              refine Jz_iald (r := ((-2147483648), 2147483647)) jEq.rf dX4_score_114 ha_RC rfl hv_RC (by omega) (by omega) (fun y114 hf114 hl114 hh114 => ?_)
              dsimp only at hl114 hh114
              clear hl114 hh114
              refine Jz_iconst 1 dX4_score_115 (by decide) (fun y115 he115 => ?_)
              refine J_iadd dX4_score_116 ?_
              refine Jz_iastB (r := ((-2147483648), 2147483647)) jEq.rf jEq.rf hW id dX4_score_117 ha_RC rfl rfl (by omega) (by omega) (j_rng _).1 (j_rng _).2 (fun V117 G117 hW hx117 hA117 hp117 ho117 hB117 => ?_)
              obtain ⟨hN117, hv117⟩ := WT_rngI (r := ((-2147483648), 2147483647)) hW id rfl hA117
              clear hN117
              have he := he.trans (hx117.sub (jsub_of rfl))
              have hfp := hfp.trans (jfp.one hB117 (List.mem_cons_of_mem _ (List.mem_cons_of_mem _ (List.mem_cons_of_mem _ List.mem_cons_self))))
              have ha0 := ha0.mono hx117.1
              have hb_wc := hb_wc.mono hx117.1
              have hb_sq := hb_sq.mono hx117.1
              have hb_rc := hb_rc.mono hx117.1
              have hb_bc := hb_bc.mono hx117.1
              have hO_a0 := hx117.2 _ _ hO_a0 (jnot_of rfl)
              have hK_a0 := hK_a0.mono hx117.1
              have ha_BC := hx117.2 _ _ ha_BC (jnot_of rfl)
              have hA68 := hx117.2 _ _ hA68 (jnot_of rfl)
              have hA91 := hx117.2 _ _ hA91 (jnot_of rfl)
              refine J_iload dX4_score_118 rfl ?_
              refine J_iload_n dX4_score_120 rfl ?_
              refine Jz_icmp_ne (tgt := 137) jEq.rf jEq.rf dX4_score_121 (by decide) (fun c121 => ?_) (fun c121 => ?_)
              · refine J_aload_n dX4_score_137 rfl ?_
                refine J_aload_n dX4_score_138 rfl ?_
                refine J_get jf_X4_38 dX4_score_139 hO_a0 hF_tg ?_
                refine J_aload_n dX4_score_142 rfl ?_
                refine J_get jf_X4_9 dX4_score_143 hO_a0 hF_wc ?_
                refine J_aload_n dX4_score_146 rfl ?_
                refine J_get jf_X4_31 dX4_score_147 hO_a0 hF_lv ?_
                refine Jz_iald (r := ((-2147483648), 2147483647)) jEq.rf dX4_score_150 hA68 rfl hv68 (by omega) (by omega) (fun y150 hf150 hl150 hh150 => ?_)
                dsimp only at hl150 hh150
                clear hl150 hh150
                have he150 : jEq y150.toInt (y65.toInt + 1) := by rw [← hf150, hp68]; exact he67
                refine Jz_iadd jEq.rf he150 dX4_score_151 (by omega) (by omega) (fun y151 he151 => ?_)
                refine Jz_ldc 600000 jw_k_X4_115 dX4_score_152 (by decide) (fun y152 he152 => ?_)
                refine Jz_icmp_le (tgt := 161) he151 he152 dX4_score_154 (by decide) (fun c154 => ?_) (fun c154 => ?_)
                · refine Jz_iconst 0 dX4_score_161 (by decide) (fun y161 he161 => ?_)
                  refine Jz_putI hO_a0 hW id rfl jf_X4_41 jt_X4_13 he161 dX4_score_162 (by omega) (by omega) (fun _ h => ⟨nar_b (by omega) (by omega), fit_b (by omega) (by omega)⟩) (fun V162 fs162 hW hx162 hO162 hS162 hT162 hB162 => ?_)
                  have hK162 : jokO _ (jFs 2) fs162 := hW _ _ id hO162
                  have hF162_0 := (hT162 0 (by decide)).trans hF_g
                  have hF162_1 := (hT162 1 (by decide)).trans hF_R
                  have hF162_2 := (hT162 2 (by decide)).trans hF_sd
                  have hF162_10 := (hT162 10 (by decide)).trans hF_lv
                  have hF162_11 := (hT162 11 (by decide)).trans hF_cd
                  have hF162_12 := (hT162 12 (by decide)).trans hF_tg
                  have hF162_4 := (hT162 4 (by decide)).trans hF_wc
                  have hF162_5 := (hT162 5 (by decide)).trans hF_sq
                  have hF162_6 := (hT162 6 (by decide)).trans hF_rc
                  have hF162_7 := (hT162 7 (by decide)).trans hF_bc
                  have he := he.trans (hx162.sub (jsub_of rfl))
                  have hfp := hfp.trans (jfp.one hB162 List.mem_cons_self)
                  have ha0 := ha0.mono hx162.1
                  have hb_wc := hb_wc.mono hx162.1
                  have hb_sq := hb_sq.mono hx162.1
                  have hb_rc := hb_rc.mono hx162.1
                  have hb_bc := hb_bc.mono hx162.1
                  have ha_BC := hx162.2 _ _ ha_BC (jnot_of rfl)
                  have hA68 := hx162.2 _ _ hA68 (jnot_of rfl)
                  have hA91 := hx162.2 _ _ hA91 (jnot_of rfl)
                  have hA117 := hx162.2 _ _ hA117 (jnot_of rfl)
                  exact J_ret (r := none) dX4_score_165 ⟨rfl, rfl⟩ (⟨⟨hW, he, rfl⟩, ⟨G68, G91, G117, BC, y161, hA68, hA91, hA117, ha_BC, ⟨_, hO162, hS162⟩, (jsc_mk hp14 hp12 (by rw [hp68, he67.eq]; omega) hz86.eq hp91 (by first | exact Or.inl ⟨(hP99_0.elim (fun q => q.2) (fun q => absurd q.1 c102)), (hp117.trans (by rw [← hf114, show y115 = 1 from jI_inj.mp (he115.eq.trans rfl)]))⟩ | exact Or.inr ⟨(hP99_0.elim (fun q => absurd q.1 (by omega)) (fun q => q.2)), rfl⟩) (by first | exact Or.inl ⟨hp15.mp (by omega), (hp136.trans (by rw [← hf133, show y134 = 1 from jI_inj.mp (he134.eq.trans rfl)]))⟩ | exact Or.inr ⟨fun z => absurd (hp15.mpr z) (by omega), rfl⟩)), (by rw [hp68, he67.eq]; omega), (by first | (rw [he157.eq, hp68, he67.eq]; omega) | (rw [he161.eq, hp68, he67.eq]; omega)), (fun j hj => ⟨ho68 j hj, ho91 j hj, (by first | exact ho117 j hj | rfl), (by first | exact ho136 j hj | rfl)⟩)⟩, hfp, ⟨_, ⟨_, hO162, hF162_0⟩, (by omega)⟩, ⟨_, ⟨_, hO162, hF162_1⟩, (by omega)⟩, ⟨_, ⟨_, hO162, hF162_2⟩, (by omega)⟩, ⟨_, ⟨_, hO162, hF162_10⟩, (by omega)⟩, ⟨_, ⟨_, hO162, hF162_11⟩, (by omega)⟩, ⟨_, ⟨_, hO162, hF162_12⟩, (by omega)⟩⟩)
                · refine Jz_iconst 1 dX4_score_157 (by decide) (fun y157 he157 => ?_)
                  refine J_goto (tgt := 162) dX4_score_158 (by decide) ?_
                  refine Jz_putI hO_a0 hW id rfl jf_X4_41 jt_X4_13 he157 dX4_score_162 (by omega) (by omega) (fun _ h => ⟨nar_b (by omega) (by omega), fit_b (by omega) (by omega)⟩) (fun V162 fs162 hW hx162 hO162 hS162 hT162 hB162 => ?_)
                  have hK162 : jokO _ (jFs 2) fs162 := hW _ _ id hO162
                  have hF162_0 := (hT162 0 (by decide)).trans hF_g
                  have hF162_1 := (hT162 1 (by decide)).trans hF_R
                  have hF162_2 := (hT162 2 (by decide)).trans hF_sd
                  have hF162_10 := (hT162 10 (by decide)).trans hF_lv
                  have hF162_11 := (hT162 11 (by decide)).trans hF_cd
                  have hF162_12 := (hT162 12 (by decide)).trans hF_tg
                  have hF162_4 := (hT162 4 (by decide)).trans hF_wc
                  have hF162_5 := (hT162 5 (by decide)).trans hF_sq
                  have hF162_6 := (hT162 6 (by decide)).trans hF_rc
                  have hF162_7 := (hT162 7 (by decide)).trans hF_bc
                  have he := he.trans (hx162.sub (jsub_of rfl))
                  have hfp := hfp.trans (jfp.one hB162 List.mem_cons_self)
                  have ha0 := ha0.mono hx162.1
                  have hb_wc := hb_wc.mono hx162.1
                  have hb_sq := hb_sq.mono hx162.1
                  have hb_rc := hb_rc.mono hx162.1
                  have hb_bc := hb_bc.mono hx162.1
                  have ha_BC := hx162.2 _ _ ha_BC (jnot_of rfl)
                  have hA68 := hx162.2 _ _ hA68 (jnot_of rfl)
                  have hA91 := hx162.2 _ _ hA91 (jnot_of rfl)
                  have hA117 := hx162.2 _ _ hA117 (jnot_of rfl)
                  exact J_ret (r := none) dX4_score_165 ⟨rfl, rfl⟩ (⟨⟨hW, he, rfl⟩, ⟨G68, G91, G117, BC, y157, hA68, hA91, hA117, ha_BC, ⟨_, hO162, hS162⟩, (jsc_mk hp14 hp12 (by rw [hp68, he67.eq]; omega) hz86.eq hp91 (by first | exact Or.inl ⟨(hP99_0.elim (fun q => q.2) (fun q => absurd q.1 c102)), (hp117.trans (by rw [← hf114, show y115 = 1 from jI_inj.mp (he115.eq.trans rfl)]))⟩ | exact Or.inr ⟨(hP99_0.elim (fun q => absurd q.1 (by omega)) (fun q => q.2)), rfl⟩) (by first | exact Or.inl ⟨hp15.mp (by omega), (hp136.trans (by rw [← hf133, show y134 = 1 from jI_inj.mp (he134.eq.trans rfl)]))⟩ | exact Or.inr ⟨fun z => absurd (hp15.mpr z) (by omega), rfl⟩)), (by rw [hp68, he67.eq]; omega), (by first | (rw [he157.eq, hp68, he67.eq]; omega) | (rw [he161.eq, hp68, he67.eq]; omega)), (fun j hj => ⟨ho68 j hj, ho91 j hj, (by first | exact ho117 j hj | rfl), (by first | exact ho136 j hj | rfl)⟩)⟩, hfp, ⟨_, ⟨_, hO162, hF162_0⟩, (by omega)⟩, ⟨_, ⟨_, hO162, hF162_1⟩, (by omega)⟩, ⟨_, ⟨_, hO162, hF162_2⟩, (by omega)⟩, ⟨_, ⟨_, hO162, hF162_10⟩, (by omega)⟩, ⟨_, ⟨_, hO162, hF162_11⟩, (by omega)⟩, ⟨_, ⟨_, hO162, hF162_12⟩, (by omega)⟩⟩)
              · refine J_aload_n dX4_score_124 rfl ?_
                refine J_get jf_X4_22 dX4_score_125 hO_a0 hF_bc ?_
                refine J_aload_n dX4_score_128 rfl ?_
                refine J_get jf_X4_31 dX4_score_129 hO_a0 hF_lv ?_
                refine J_dup2 dX4_score_132 rfl rfl ?_
                refine Jz_iald (r := ((-2147483648), 2147483647)) jEq.rf dX4_score_133 ha_BC rfl hv_BC (by omega) (by omega) (fun y133 hf133 hl133 hh133 => ?_)
                dsimp only at hl133 hh133
                clear hl133 hh133
                refine Jz_iconst 1 dX4_score_134 (by decide) (fun y134 he134 => ?_)
                refine J_iadd dX4_score_135 ?_
                refine Jz_iastB (r := ((-2147483648), 2147483647)) jEq.rf jEq.rf hW id dX4_score_136 ha_BC rfl rfl (by omega) (by omega) (j_rng _).1 (j_rng _).2 (fun V136 G136 hW hx136 hA136 hp136 ho136 hB136 => ?_)
                obtain ⟨hN136, hv136⟩ := WT_rngI (r := ((-2147483648), 2147483647)) hW id rfl hA136
                clear hN136
                have he := he.trans (hx136.sub (jsub_of rfl))
                have hfp := hfp.trans (jfp.one hB136 (List.mem_cons_of_mem _ (List.mem_cons_of_mem _ (List.mem_cons_of_mem _ (List.mem_cons_of_mem _ List.mem_cons_self)))))
                have ha0 := ha0.mono hx136.1
                have hb_wc := hb_wc.mono hx136.1
                have hb_sq := hb_sq.mono hx136.1
                have hb_rc := hb_rc.mono hx136.1
                have hb_bc := hb_bc.mono hx136.1
                have hO_a0 := hx136.2 _ _ hO_a0 (jnot_of rfl)
                have hK_a0 := hK_a0.mono hx136.1
                have hA68 := hx136.2 _ _ hA68 (jnot_of rfl)
                have hA91 := hx136.2 _ _ hA91 (jnot_of rfl)
                have hA117 := hx136.2 _ _ hA117 (jnot_of rfl)
                refine J_aload_n dX4_score_137 rfl ?_
                refine J_aload_n dX4_score_138 rfl ?_
                refine J_get jf_X4_38 dX4_score_139 hO_a0 hF_tg ?_
                refine J_aload_n dX4_score_142 rfl ?_
                refine J_get jf_X4_9 dX4_score_143 hO_a0 hF_wc ?_
                refine J_aload_n dX4_score_146 rfl ?_
                refine J_get jf_X4_31 dX4_score_147 hO_a0 hF_lv ?_
                refine Jz_iald (r := ((-2147483648), 2147483647)) jEq.rf dX4_score_150 hA68 rfl hv68 (by omega) (by omega) (fun y150 hf150 hl150 hh150 => ?_)
                dsimp only at hl150 hh150
                clear hl150 hh150
                have he150 : jEq y150.toInt (y65.toInt + 1) := by rw [← hf150, hp68]; exact he67
                refine Jz_iadd jEq.rf he150 dX4_score_151 (by omega) (by omega) (fun y151 he151 => ?_)
                refine Jz_ldc 600000 jw_k_X4_115 dX4_score_152 (by decide) (fun y152 he152 => ?_)
                refine Jz_icmp_le (tgt := 161) he151 he152 dX4_score_154 (by decide) (fun c154 => ?_) (fun c154 => ?_)
                · refine Jz_iconst 0 dX4_score_161 (by decide) (fun y161 he161 => ?_)
                  refine Jz_putI hO_a0 hW id rfl jf_X4_41 jt_X4_13 he161 dX4_score_162 (by omega) (by omega) (fun _ h => ⟨nar_b (by omega) (by omega), fit_b (by omega) (by omega)⟩) (fun V162 fs162 hW hx162 hO162 hS162 hT162 hB162 => ?_)
                  have hK162 : jokO _ (jFs 2) fs162 := hW _ _ id hO162
                  have hF162_0 := (hT162 0 (by decide)).trans hF_g
                  have hF162_1 := (hT162 1 (by decide)).trans hF_R
                  have hF162_2 := (hT162 2 (by decide)).trans hF_sd
                  have hF162_10 := (hT162 10 (by decide)).trans hF_lv
                  have hF162_11 := (hT162 11 (by decide)).trans hF_cd
                  have hF162_12 := (hT162 12 (by decide)).trans hF_tg
                  have hF162_4 := (hT162 4 (by decide)).trans hF_wc
                  have hF162_5 := (hT162 5 (by decide)).trans hF_sq
                  have hF162_6 := (hT162 6 (by decide)).trans hF_rc
                  have hF162_7 := (hT162 7 (by decide)).trans hF_bc
                  have he := he.trans (hx162.sub (jsub_of rfl))
                  have hfp := hfp.trans (jfp.one hB162 List.mem_cons_self)
                  have ha0 := ha0.mono hx162.1
                  have hb_wc := hb_wc.mono hx162.1
                  have hb_sq := hb_sq.mono hx162.1
                  have hb_rc := hb_rc.mono hx162.1
                  have hb_bc := hb_bc.mono hx162.1
                  have hA68 := hx162.2 _ _ hA68 (jnot_of rfl)
                  have hA91 := hx162.2 _ _ hA91 (jnot_of rfl)
                  have hA117 := hx162.2 _ _ hA117 (jnot_of rfl)
                  have hA136 := hx162.2 _ _ hA136 (jnot_of rfl)
                  exact J_ret (r := none) dX4_score_165 ⟨rfl, rfl⟩ (⟨⟨hW, he, rfl⟩, ⟨G68, G91, G117, G136, y161, hA68, hA91, hA117, hA136, ⟨_, hO162, hS162⟩, (jsc_mk hp14 hp12 (by rw [hp68, he67.eq]; omega) hz86.eq hp91 (by first | exact Or.inl ⟨(hP99_0.elim (fun q => q.2) (fun q => absurd q.1 c102)), (hp117.trans (by rw [← hf114, show y115 = 1 from jI_inj.mp (he115.eq.trans rfl)]))⟩ | exact Or.inr ⟨(hP99_0.elim (fun q => absurd q.1 (by omega)) (fun q => q.2)), rfl⟩) (by first | exact Or.inl ⟨hp15.mp (by omega), (hp136.trans (by rw [← hf133, show y134 = 1 from jI_inj.mp (he134.eq.trans rfl)]))⟩ | exact Or.inr ⟨fun z => absurd (hp15.mpr z) (by omega), rfl⟩)), (by rw [hp68, he67.eq]; omega), (by first | (rw [he157.eq, hp68, he67.eq]; omega) | (rw [he161.eq, hp68, he67.eq]; omega)), (fun j hj => ⟨ho68 j hj, ho91 j hj, (by first | exact ho117 j hj | rfl), (by first | exact ho136 j hj | rfl)⟩)⟩, hfp, ⟨_, ⟨_, hO162, hF162_0⟩, (by omega)⟩, ⟨_, ⟨_, hO162, hF162_1⟩, (by omega)⟩, ⟨_, ⟨_, hO162, hF162_2⟩, (by omega)⟩, ⟨_, ⟨_, hO162, hF162_10⟩, (by omega)⟩, ⟨_, ⟨_, hO162, hF162_11⟩, (by omega)⟩, ⟨_, ⟨_, hO162, hF162_12⟩, (by omega)⟩⟩)
                · refine Jz_iconst 1 dX4_score_157 (by decide) (fun y157 he157 => ?_)
                  refine J_goto (tgt := 162) dX4_score_158 (by decide) ?_
                  refine Jz_putI hO_a0 hW id rfl jf_X4_41 jt_X4_13 he157 dX4_score_162 (by omega) (by omega) (fun _ h => ⟨nar_b (by omega) (by omega), fit_b (by omega) (by omega)⟩) (fun V162 fs162 hW hx162 hO162 hS162 hT162 hB162 => ?_)
                  have hK162 : jokO _ (jFs 2) fs162 := hW _ _ id hO162
                  have hF162_0 := (hT162 0 (by decide)).trans hF_g
                  have hF162_1 := (hT162 1 (by decide)).trans hF_R
                  have hF162_2 := (hT162 2 (by decide)).trans hF_sd
                  have hF162_10 := (hT162 10 (by decide)).trans hF_lv
                  have hF162_11 := (hT162 11 (by decide)).trans hF_cd
                  have hF162_12 := (hT162 12 (by decide)).trans hF_tg
                  have hF162_4 := (hT162 4 (by decide)).trans hF_wc
                  have hF162_5 := (hT162 5 (by decide)).trans hF_sq
                  have hF162_6 := (hT162 6 (by decide)).trans hF_rc
                  have hF162_7 := (hT162 7 (by decide)).trans hF_bc
                  have he := he.trans (hx162.sub (jsub_of rfl))
                  have hfp := hfp.trans (jfp.one hB162 List.mem_cons_self)
                  have ha0 := ha0.mono hx162.1
                  have hb_wc := hb_wc.mono hx162.1
                  have hb_sq := hb_sq.mono hx162.1
                  have hb_rc := hb_rc.mono hx162.1
                  have hb_bc := hb_bc.mono hx162.1
                  have hA68 := hx162.2 _ _ hA68 (jnot_of rfl)
                  have hA91 := hx162.2 _ _ hA91 (jnot_of rfl)
                  have hA117 := hx162.2 _ _ hA117 (jnot_of rfl)
                  have hA136 := hx162.2 _ _ hA136 (jnot_of rfl)
                  exact J_ret (r := none) dX4_score_165 ⟨rfl, rfl⟩ (⟨⟨hW, he, rfl⟩, ⟨G68, G91, G117, G136, y157, hA68, hA91, hA117, hA136, ⟨_, hO162, hS162⟩, (jsc_mk hp14 hp12 (by rw [hp68, he67.eq]; omega) hz86.eq hp91 (by first | exact Or.inl ⟨(hP99_0.elim (fun q => q.2) (fun q => absurd q.1 c102)), (hp117.trans (by rw [← hf114, show y115 = 1 from jI_inj.mp (he115.eq.trans rfl)]))⟩ | exact Or.inr ⟨(hP99_0.elim (fun q => absurd q.1 (by omega)) (fun q => q.2)), rfl⟩) (by first | exact Or.inl ⟨hp15.mp (by omega), (hp136.trans (by rw [← hf133, show y134 = 1 from jI_inj.mp (he134.eq.trans rfl)]))⟩ | exact Or.inr ⟨fun z => absurd (hp15.mpr z) (by omega), rfl⟩)), (by rw [hp68, he67.eq]; omega), (by first | (rw [he157.eq, hp68, he67.eq]; omega) | (rw [he161.eq, hp68, he67.eq]; omega)), (fun j hj => ⟨ho68 j hj, ho91 j hj, (by first | exact ho117 j hj | rfl), (by first | exact ho136 j hj | rfl)⟩)⟩, hfp, ⟨_, ⟨_, hO162, hF162_0⟩, (by omega)⟩, ⟨_, ⟨_, hO162, hF162_1⟩, (by omega)⟩, ⟨_, ⟨_, hO162, hF162_2⟩, (by omega)⟩, ⟨_, ⟨_, hO162, hF162_10⟩, (by omega)⟩, ⟨_, ⟨_, hO162, hF162_11⟩, (by omega)⟩, ⟨_, ⟨_, hO162, hF162_12⟩, (by omega)⟩⟩)
          · exact False.elim (by omega)
set_option maxRecDepth 100000 in
set_option maxHeartbeats 8000000 in
theorem w_X4_extend_z {tS : jTS} : ∀ (K d : Nat) (V0 : jH) (a0 : Nat) (x1 : Int32) (x2 : Int32) (x3 : Int32) (x4 : Int32) (x5 : Int32) (g : Int32) (R : Int32) (sd : Int32) (lv : Int32) (cd : Int32) (tg : Int32) (sp : Int32) (tk : Nat) (wc : Nat) (sq : Nat) (rc : Nat) (bc : Nat) (ln : Nat) (l : List jP3) (TK : Nat → Int32) (WC : Nat → Int32) (SQ : Nat → Int64) (RC : Nat → Int32) (BC : Nat → Int32), 3 + K ≤ d → WT V0 → (jis V0 (.inr 2) a0) → (0 ≤ x1.toInt) → (x1.toInt ≤ 20) → (jfI V0 a0 2 0 g) → (jfI V0 a0 2 1 R) → (jfI V0 a0 2 2 sd) → (jfI V0 a0 2 10 lv) → (jfI V0 a0 2 11 cd) → (jfI V0 a0 2 12 tg) → (jfI V0 a0 2 13 sp) → (jfR V0 a0 2 3 tk) → (jfR V0 a0 2 4 wc) → (jfR V0 a0 2 5 sq) → (jfR V0 a0 2 6 rc) → (jfR V0 a0 2 7 bc) → (V0 tk = some (.inl (2, ln, .inl TK))) → (V0 wc = some (.inl (8, 21, .inl WC))) → (V0 sq = some (.inl (1, 21, .inr (.inl SQ)))) → (V0 rc = some (.inl (37, 21, .inl RC))) → (V0 bc = some (.inl (38, 21, .inl BC))) → (0 ≤ g.toInt) → (g.toInt ≤ 3) → (R.toInt = jRg g.toInt) → (sd.toInt = 2 * jRg g.toInt + 1) → ((ln : Int) = jLg g.toInt) → (x1.toInt < lv.toInt) → (lv.toInt ≤ jRg g.toInt) → (0 ≤ tg.toInt) → (tg.toInt ≤ 600000) → (0 ≤ (WC lv.toInt.toNat).toInt) → ((WC lv.toInt.toNat).toInt ≤ 600001 - tg.toInt) → (((sp.toInt = 1 ∧ 600000 < tg.toInt + (WC lv.toInt.toNat).toInt) ∨ (sp.toInt = 0 ∧ ¬ 600000 < tg.toInt + (WC lv.toInt.toNat).toInt))) → (l.length = x1.toInt.toNat + 1) → (l.headD (0, 0, 0) = (x2.toInt, x3.toInt, x4.toInt)) → (jnr g.toInt x1.toInt l) → (jtk g.toInt TK l) → (x5.toInt = jtpc l) → (21 - x1.toInt).toNat < K → jTot tS mX4_extend d [.ref a0, .int x1, .int x2, .int x3, .int x4, .int x5] V0 0 0 (fun r V => (jPost [.inr 2, .inl 1, .inl 2, .inl 8, .inl 37, .inl 38] V0 rV) r V ∧ (∃ (TK2 WC2 : Nat → Int32) (SQ2 : Nat → Int64) (RC2 BC2 : Nat → Int32) (sp2 : Int32), V tk = some (.inl (2, ln, .inl TK2)) ∧ V wc = some (.inl (8, 21, .inl WC2)) ∧ V sq = some (.inl (1, 21, .inr (.inl SQ2))) ∧ V rc = some (.inl (37, 21, .inl RC2)) ∧ V bc = some (.inl (38, 21, .inl BC2)) ∧ jfI V a0 2 13 sp2 ∧ jtk g.toInt TK2 l ∧ jac WC2 SQ2 RC2 BC2 lv.toInt.toNat = jcw g.toInt (jfzs g.toInt tg.toInt) (lv.toInt - x1.toInt).toNat l (jac WC SQ RC BC lv.toInt.toNat) ∧ 0 ≤ (WC2 lv.toInt.toNat).toInt ∧ (WC2 lv.toInt.toNat).toInt ≤ 600001 - tg.toInt ∧ ((sp2.toInt = 1 ∧ 600000 < tg.toInt + (WC2 lv.toInt.toNat).toInt) ∨ (sp2.toInt = 0 ∧ ¬ 600000 < tg.toInt + (WC2 lv.toInt.toNat).toInt)) ∧ jot WC2 SQ2 RC2 BC2 WC SQ RC BC lv.toInt.toNat) ∧ jfp [a0, tk, wc, sq, rc, bc] V0 V ∧ (∃ g2 : Int32, jfI V a0 2 0 g2 ∧ (g2.toInt = g.toInt)) ∧ (∃ R2 : Int32, jfI V a0 2 1 R2 ∧ (R2.toInt = R.toInt)) ∧ (∃ sd2 : Int32, jfI V a0 2 2 sd2 ∧ (sd2.toInt = sd.toInt)) ∧ (∃ lv2 : Int32, jfI V a0 2 10 lv2 ∧ (lv2.toInt = lv.toInt)) ∧ (∃ cd2 : Int32, jfI V a0 2 11 cd2 ∧ (cd2.toInt = cd.toInt)) ∧ (∃ tg2 : Int32, jfI V a0 2 12 tg2 ∧ (tg2.toInt = tg.toInt))) := by
  intro K
  induction K with
  | zero => intro d V0 a0 x1 x2 x3 x4 x5 g R sd lv cd tg sp tk wc sq rc bc ln l TK WC SQ RC BC hd hW ha0 hl1 hh1 hf_g hf_R hf_sd hf_lv hf_cd hf_tg hf_sp hr_tk hr_wc hr_sq hr_rc hr_bc ha_TK ha_WC ha_SQ ha_RC ha_BC hp0 hp1 hp2 hp3 hp4 hp5 hp6 hp7 hp8 hp9 hp10 hp11 hp12 hp13 hp14 hp15 hp16 hrk; exact absurd hrk (Nat.not_lt_zero _)
  | succ K IH =>
  intro d V0 a0 x1 x2 x3 x4 x5 g R sd lv cd tg sp tk wc sq rc bc ln l TK WC SQ RC BC hd hW ha0 hl1 hh1 hf_g hf_R hf_sd hf_lv hf_cd hf_tg hf_sp hr_tk hr_wc hr_sq hr_rc hr_bc ha_TK ha_WC ha_SQ ha_RC ha_BC hp0 hp1 hp2 hp3 hp4 hp5 hp6 hp7 hp8 hp9 hp10 hp11 hp12 hp13 hp14 hp15 hp16 hrk
  refine jTot.of_J [some (.ref a0), some (.int x1), some (.int x2), some (.int x3), some (.int x4), some (.int x5), none, none, none, none, none, none, none, none] moX4_extend (Nat.le_of_ble_eq_true rfl) rfl ?_
  have hrx2 := j_rng x2
  have hrx3 := j_rng x3
  have hrx4 := j_rng x4
  have hrx5 := j_rng x5
  have he : jeff [.inr 2, .inl 1, .inl 2, .inl 8, .inl 37, .inl 38] V0 V0 := jeff.refl _ _
  have hfp : jfp [a0, tk, wc, sq, rc, bc] V0 V0 := jfp.rf
  obtain ⟨fs_a0, hO_a0, hK_a0⟩ := WT_obj hW id ha0
  have hF_g := hf_g.get hO_a0
  have hrg : (-2147483648) ≤ g.toInt ∧ g.toInt ≤ 2147483647 := jok_rngI hK_a0 rfl hF_g
  have hF_R := hf_R.get hO_a0
  have hrR : 0 ≤ R.toInt ∧ R.toInt ≤ 20 := jok_rngI hK_a0 rfl hF_R
  have hF_sd := hf_sd.get hO_a0
  have hrsd : (-2147483648) ≤ sd.toInt ∧ sd.toInt ≤ 2147483647 := jok_rngI hK_a0 rfl hF_sd
  have hF_lv := hf_lv.get hO_a0
  have hrlv : 0 ≤ lv.toInt ∧ lv.toInt ≤ 20 := jok_rngI hK_a0 rfl hF_lv
  have hF_cd := hf_cd.get hO_a0
  have hrcd : 0 ≤ cd.toInt ∧ cd.toInt ≤ 20 := jok_rngI hK_a0 rfl hF_cd
  have hF_tg := hf_tg.get hO_a0
  have hrtg : (-2147483648) ≤ tg.toInt ∧ tg.toInt ≤ 2147483647 := jok_rngI hK_a0 rfl hF_tg
  have hF_sp := hf_sp.get hO_a0
  have hrsp : 0 ≤ sp.toInt ∧ sp.toInt ≤ 1 := jok_rngI hK_a0 rfl hF_sp
  have hF_tk := hr_tk.get hO_a0
  obtain ⟨w_tk, hFq_tk, b_tk, hbq_tk, hb_tk⟩ := hK_a0.2 3 (.inr (some (.inl 2))) rfl
  cases hF_tk.symm.trans (hFq_tk.trans (congrArg some hbq_tk))
  have hF_wc := hr_wc.get hO_a0
  obtain ⟨w_wc, hFq_wc, b_wc, hbq_wc, hb_wc⟩ := hK_a0.2 4 (.inr (some (.inl 8))) rfl
  cases hF_wc.symm.trans (hFq_wc.trans (congrArg some hbq_wc))
  have hF_sq := hr_sq.get hO_a0
  obtain ⟨w_sq, hFq_sq, b_sq, hbq_sq, hb_sq⟩ := hK_a0.2 5 (.inr (some (.inl 1))) rfl
  cases hF_sq.symm.trans (hFq_sq.trans (congrArg some hbq_sq))
  have hF_rc := hr_rc.get hO_a0
  obtain ⟨w_rc, hFq_rc, b_rc, hbq_rc, hb_rc⟩ := hK_a0.2 6 (.inr (some (.inl 37))) rfl
  cases hF_rc.symm.trans (hFq_rc.trans (congrArg some hbq_rc))
  have hF_bc := hr_bc.get hO_a0
  obtain ⟨w_bc, hFq_bc, b_bc, hbq_bc, hb_bc⟩ := hK_a0.2 7 (.inr (some (.inl 38))) rfl
  cases hF_bc.symm.trans (hFq_bc.trans (congrArg some hbq_bc))
  obtain ⟨hN_TK, hv_TK⟩ := WT_rngI (r := (0, 1)) hW id rfl ha_TK
  clear hN_TK
  obtain ⟨hN_WC, hv_WC⟩ := WT_rngI (r := ((-2147483648), 2147483647)) hW id rfl ha_WC
  clear hN_WC
  obtain ⟨hN_RC, hv_RC⟩ := WT_rngI (r := ((-2147483648), 2147483647)) hW id rfl ha_RC
  clear hN_RC
  obtain ⟨hN_BC, hv_BC⟩ := WT_rngI (r := ((-2147483648), 2147483647)) hW id rfl ha_BC
  clear hN_BC
  have hjR := jRg_cases g.toInt
  have hjd := jdir_cases g.toInt
  have hmem : (x2.toInt, x3.toInt, x4.toInt) ∈ l := by have q := jhd_mem hp12; rw [hp13] at q; exact q
  have hhb := hp14 _ hmem
  dsimp only at hhb
  refine J_aload_n dX4_extend_0 rfl ?_
  refine J_get jf_X4_45 dX4_extend_1 hO_a0 hF_g ?_
  refine J_istore dX4_extend_4 rfl (by decide) ?_
  refine J_iload dX4_extend_6 rfl ?_
  refine J_callS1 moX0_directions jw_ml_X4_78 jw_st_X0_directions dX4_extend_8 (w_X0_directions_z (d - 1) _ g (by omega)   ) (by omega) (Nat.zero_le _) (Nat.zero_le _) (Nat.le_of_ble_eq_true rfl) (fun r8 V8 h8 => ?_)
  obtain ⟨⟨y8, rfl, hl8, hh8, hP8_0⟩, hE8⟩ := h8
  have hE8 := hE8.symm
  subst hE8
  have hz8 : jEq y8.toInt (jdir (g.toInt)) := hP8_0
  simp only [hP8_0] at hl8 hh8
  clear hP8_0
  refine J_istore dX4_extend_11 rfl (by decide) ?_
  refine Jz_iconst 0 dX4_extend_13 (by decide) (fun y13 he13 => ?_)
  refine J_istore dX4_extend_14 rfl (by decide) ?_
  have L16 : ∀ (N : Nat) (V : jH) (i8n16 : Int32) (gs16a0 : List Value) (g13n16 : Int32) (F2n16 : Nat → Int32) (F8n16 : Nat → Int32) (F1n16 : Nat → Int64) (F37n16 : Nat → Int32) (F38n16 : Nat → Int32), WT V → jeff [.inr 2, .inl 1, .inl 2, .inl 8, .inl 37, .inl 38] V0 V → (jis V (.inr 2) a0) → (jis V (.inl 2) tk) → (jis V (.inl 8) wc) → (jis V (.inl 1) sq) → (jis V (.inl 37) rc) → (jis V (.inl 38) bc) → (jfp [a0, tk, wc, sq, rc, bc] V0 V) → (V a0 = some (.inr (2, gs16a0))) → (gs16a0[0]? = some (.int g)) → (gs16a0[1]? = some (.int R)) → (gs16a0[2]? = some (.int sd)) → (gs16a0[10]? = some (.int lv)) → (gs16a0[11]? = some (.int cd)) → (gs16a0[12]? = some (.int tg)) → (gs16a0[13]? = some (.int g13n16)) → (gs16a0[3]? = some (.ref tk)) → (gs16a0[4]? = some (.ref wc)) → (gs16a0[5]? = some (.ref sq)) → (gs16a0[6]? = some (.ref rc)) → (gs16a0[7]? = some (.ref bc)) → (V tk = some (.inl (2, ln, .inl F2n16))) → (V wc = some (.inl (8, 21, .inl F8n16))) → (V sq = some (.inl (1, 21, .inr (.inl F1n16)))) → (V rc = some (.inl (37, 21, .inl F37n16))) → (V bc = some (.inl (38, 21, .inl F38n16))) → (0 ≤ i8n16.toInt ∧ i8n16.toInt ≤ jdir g.toInt) → (jtk g.toInt F2n16 l) → (jfe (jdir g.toInt).toNat (jcs g.toInt (jcw g.toInt (jfzs g.toInt tg.toInt) (lv.toInt - x1.toInt - 1).toNat) l) (jdir g.toInt - i8n16.toInt).toNat (jac F8n16 F1n16 F37n16 F38n16 lv.toInt.toNat) = jcw g.toInt (jfzs g.toInt tg.toInt) (lv.toInt - x1.toInt).toNat l (jac WC SQ RC BC lv.toInt.toNat)) → (0 ≤ (F8n16 lv.toInt.toNat).toInt ∧ (F8n16 lv.toInt.toNat).toInt ≤ 600001 - tg.toInt) → (((g13n16.toInt = 1 ∧ 600000 < tg.toInt + (F8n16 lv.toInt.toNat).toInt) ∨ (g13n16.toInt = 0 ∧ ¬ 600000 < tg.toInt + (F8n16 lv.toInt.toNat).toInt))) → (jot F8n16 F1n16 F37n16 F38n16 WC SQ RC BC lv.toInt.toNat) → (300 - i8n16.toInt).toNat < N → J tS mX4_extend d 16 [some (.ref a0), some (.int x1), some (.int x2), some (.int x3), some (.int x4), some (.int x5), some (.int g), some (.int y8), some (.int i8n16), none, none, none, none, none] [] V 0 0 (fun r V => (jPost [.inr 2, .inl 1, .inl 2, .inl 8, .inl 37, .inl 38] V0 rV) r V ∧ (∃ (TK2 WC2 : Nat → Int32) (SQ2 : Nat → Int64) (RC2 BC2 : Nat → Int32) (sp2 : Int32), V tk = some (.inl (2, ln, .inl TK2)) ∧ V wc = some (.inl (8, 21, .inl WC2)) ∧ V sq = some (.inl (1, 21, .inr (.inl SQ2))) ∧ V rc = some (.inl (37, 21, .inl RC2)) ∧ V bc = some (.inl (38, 21, .inl BC2)) ∧ jfI V a0 2 13 sp2 ∧ jtk g.toInt TK2 l ∧ jac WC2 SQ2 RC2 BC2 lv.toInt.toNat = jcw g.toInt (jfzs g.toInt tg.toInt) (lv.toInt - x1.toInt).toNat l (jac WC SQ RC BC lv.toInt.toNat) ∧ 0 ≤ (WC2 lv.toInt.toNat).toInt ∧ (WC2 lv.toInt.toNat).toInt ≤ 600001 - tg.toInt ∧ ((sp2.toInt = 1 ∧ 600000 < tg.toInt + (WC2 lv.toInt.toNat).toInt) ∨ (sp2.toInt = 0 ∧ ¬ 600000 < tg.toInt + (WC2 lv.toInt.toNat).toInt)) ∧ jot WC2 SQ2 RC2 BC2 WC SQ RC BC lv.toInt.toNat) ∧ jfp [a0, tk, wc, sq, rc, bc] V0 V ∧ (∃ g2 : Int32, jfI V a0 2 0 g2 ∧ (g2.toInt = g.toInt)) ∧ (∃ R2 : Int32, jfI V a0 2 1 R2 ∧ (R2.toInt = R.toInt)) ∧ (∃ sd2 : Int32, jfI V a0 2 2 sd2 ∧ (sd2.toInt = sd.toInt)) ∧ (∃ lv2 : Int32, jfI V a0 2 10 lv2 ∧ (lv2.toInt = lv.toInt)) ∧ (∃ cd2 : Int32, jfI V a0 2 11 cd2 ∧ (cd2.toInt = cd.toInt)) ∧ (∃ tg2 : Int32, jfI V a0 2 12 tg2 ∧ (tg2.toInt = tg.toInt))) := by
    intro N
    induction N with
    | zero => intro V i8n16 gs16a0 g13n16 F2n16 F8n16 F1n16 F37n16 F38n16 hW he ha0 hb_tk hb_wc hb_sq hb_rc hb_bc hfp hOgs16a0 hFgs16a0_0 hFgs16a0_1 hFgs16a0_2 hFgs16a0_10 hFgs16a0_11 hFgs16a0_12 hFgs16a0_13 hFgs16a0_3 hFgs16a0_4 hFgs16a0_5 hFgs16a0_6 hFgs16a0_7 hAF2n16 hAF8n16 hAF1n16 hAF37n16 hAF38n16 hi8 htk hacc hwc hsp hoth hm; exact absurd hm (Nat.not_lt_zero _)
    | succ N ih =>
      intro V i8n16 gs16a0 g13n16 F2n16 F8n16 F1n16 F37n16 F38n16 hW he ha0 hb_tk hb_wc hb_sq hb_rc hb_bc hfp hOgs16a0 hFgs16a0_0 hFgs16a0_1 hFgs16a0_2 hFgs16a0_10 hFgs16a0_11 hFgs16a0_12 hFgs16a0_13 hFgs16a0_3 hFgs16a0_4 hFgs16a0_5 hFgs16a0_6 hFgs16a0_7 hAF2n16 hAF8n16 hAF1n16 hAF37n16 hAF38n16 hi8 htk hacc hwc hsp hoth hm
      have ih16 := ih
      have hri8 := j_rng i8n16
      have hKgs16a0 : jokO V (jFs 2) gs16a0 := hW _ _ id hOgs16a0
      have hrgg13n16 : 0 ≤ g13n16.toInt ∧ g13n16.toInt ≤ 1 := jok_rngI hKgs16a0 rfl hFgs16a0_13
      obtain ⟨hNF2n16, hvF2n16⟩ := WT_rngI (r := (0, 1)) hW id rfl hAF2n16
      clear hNF2n16
      obtain ⟨hNF8n16, hvF8n16⟩ := WT_rngI (r := ((-2147483648), 2147483647)) hW id rfl hAF8n16
      clear hNF8n16
      obtain ⟨hNF37n16, hvF37n16⟩ := WT_rngI (r := ((-2147483648), 2147483647)) hW id rfl hAF37n16
      clear hNF37n16
      obtain ⟨hNF38n16, hvF38n16⟩ := WT_rngI (r := ((-2147483648), 2147483647)) hW id rfl hAF38n16
      clear hNF38n16
      refine J_iload dX4_extend_16 rfl ?_
      refine J_iload dX4_extend_18 rfl ?_
      refine Jz_icmp_ge (tgt := 170) jEq.rf hz8 dX4_extend_20 (by decide) (fun c20 => ?_) (fun c20 => ?_)
      · exact J_ret (r := none) dX4_extend_170 ⟨rfl, rfl⟩ (⟨⟨hW, he, rfl⟩, ⟨F2n16, F8n16, F1n16, F37n16, F38n16, g13n16, hAF2n16, hAF8n16, hAF1n16, hAF37n16, hAF38n16, ⟨_, hOgs16a0, hFgs16a0_13⟩, htk, (by first | (rw [show (jdir g.toInt - i8n16.toInt).toNat = 0 by omega] at hacc; exact hacc) | exact (jfz_stope (π := fun a : jA4 => a.1) (s := jsc g.toInt) (show (600000 - tg.toInt).toNat < (F8n16 lv.toInt.toNat).toInt.toNat by omega) (by omega)).symm.trans hacc), hwc.1, hwc.2, hsp, hoth⟩, hfp, ⟨_, ⟨_, hOgs16a0, hFgs16a0_0⟩, (by omega)⟩, ⟨_, ⟨_, hOgs16a0, hFgs16a0_1⟩, (by omega)⟩, ⟨_, ⟨_, hOgs16a0, hFgs16a0_2⟩, (by omega)⟩, ⟨_, ⟨_, hOgs16a0, hFgs16a0_10⟩, (by omega)⟩, ⟨_, ⟨_, hOgs16a0, hFgs16a0_11⟩, (by omega)⟩, ⟨_, ⟨_, hOgs16a0, hFgs16a0_12⟩, (by omega)⟩⟩)
      · refine J_aload_n dX4_extend_23 rfl ?_
        refine J_get jf_X4_41 dX4_extend_24 hOgs16a0 hFgs16a0_13 ?_
        refine Jz_if_ne (tgt := 170) jEq.rf dX4_extend_27 (by decide) (fun c27 => ?_) (fun c27 => ?_)
        · exact J_ret (r := none) dX4_extend_170 ⟨rfl, rfl⟩ (⟨⟨hW, he, rfl⟩, ⟨F2n16, F8n16, F1n16, F37n16, F38n16, g13n16, hAF2n16, hAF8n16, hAF1n16, hAF37n16, hAF38n16, ⟨_, hOgs16a0, hFgs16a0_13⟩, htk, (by first | (rw [show (jdir g.toInt - i8n16.toInt).toNat = 0 by omega] at hacc; exact hacc) | exact (jfz_stope (π := fun a : jA4 => a.1) (s := jsc g.toInt) (show (600000 - tg.toInt).toNat < (F8n16 lv.toInt.toNat).toInt.toNat by omega) (by omega)).symm.trans hacc), hwc.1, hwc.2, hsp, hoth⟩, hfp, ⟨_, ⟨_, hOgs16a0, hFgs16a0_0⟩, (by omega)⟩, ⟨_, ⟨_, hOgs16a0, hFgs16a0_1⟩, (by omega)⟩, ⟨_, ⟨_, hOgs16a0, hFgs16a0_2⟩, (by omega)⟩, ⟨_, ⟨_, hOgs16a0, hFgs16a0_10⟩, (by omega)⟩, ⟨_, ⟨_, hOgs16a0, hFgs16a0_11⟩, (by omega)⟩, ⟨_, ⟨_, hOgs16a0, hFgs16a0_12⟩, (by omega)⟩⟩)
        · have hbx := jsx_b g.toInt i8n16.toInt
          have hby := jsy_b g.toInt i8n16.toInt (x2.toInt + x3.toInt)
          have hbz := jsz_b g.toInt i8n16.toInt
          have hPin : jin g.toInt (jnx g.toInt i8n16.toInt (x2.toInt, x3.toInt, x4.toInt)) := hp14.next hmem (by omega)
          have hcb : 0 ≤ jcell g.toInt ((x2.toInt + jsx g.toInt i8n16.toInt), (x3.toInt + jsy g.toInt i8n16.toInt (x2.toInt + x3.toInt)), (x4.toInt + jsz g.toInt i8n16.toInt)) ∧ jcell g.toInt ((x2.toInt + jsx g.toInt i8n16.toInt), (x3.toInt + jsy g.toInt i8n16.toInt (x2.toInt + x3.toInt)), (x4.toInt + jsz g.toInt i8n16.toInt)) < jLg g.toInt := jcell_b hPin
          have hst : (jdir g.toInt - i8n16.toInt).toNat = (jdir g.toInt - (i8n16.toInt + 1)).toNat + 1 := by omega
          have hjs := jfe_step (n := (jdir g.toInt).toNat) (c := (jdir g.toInt - (i8n16.toInt + 1)).toNat) (d := i8n16.toInt.toNat) (f := (jcs g.toInt (jcw g.toInt (jfzs g.toInt tg.toInt) (lv.toInt - x1.toInt - 1).toNat) l)) (a := jac F8n16 F1n16 F37n16 F38n16 lv.toInt.toNat) (by omega)
          rw [← hst, hacc] at hjs
          refine J_iload_n dX4_extend_30 rfl ?_
          refine J_iload dX4_extend_31 rfl ?_
          refine J_iload dX4_extend_33 rfl ?_
          refine J_callS2 moX0_shiftX jw_ml_X4_84 jw_st_X0_shiftX dX4_extend_35 (w_X0_shiftX_z (d - 1) _ g i8n16 (by omega)   (by omega) (by omega) (by omega) (by omega)) (by omega) (Nat.zero_le _) (Nat.zero_le _) (Nat.le_of_ble_eq_true rfl) (fun r35 V35 h35 => ?_)
          obtain ⟨⟨y35, rfl, hl35, hh35, hP35_0⟩, hE35⟩ := h35
          have hE35 := hE35.symm
          subst hE35
          clear hl35 hh35
          have hz35 : jEq y35.toInt (jsx (g.toInt) (i8n16.toInt)) := hP35_0
          clear hP35_0
          refine Jz_iadd jEq.rf hz35 dX4_extend_38 (by omega) (by omega) (fun y38 he38 => ?_)
          refine J_istore dX4_extend_39 rfl (by decide) ?_
          refine J_iload_n dX4_extend_41 rfl ?_
          refine J_iload dX4_extend_42 rfl ?_
          refine J_iload dX4_extend_44 rfl ?_
          refine J_iload_n dX4_extend_46 rfl ?_
          refine J_iload_n dX4_extend_47 rfl ?_
          refine J_callS4 moX0_shiftY jw_ml_X4_88 jw_st_X0_shiftY dX4_extend_48 (w_X0_shiftY_z (d - 1) _ g i8n16 x2 x3 (by omega)   (by omega) (by omega) (by omega) (by omega) (by omega) (by omega) (by omega) (by omega)) (by omega) (Nat.zero_le _) (Nat.zero_le _) (Nat.le_of_ble_eq_true rfl) (fun r48 V48 h48 => ?_)
          obtain ⟨⟨y48, rfl, hl48, hh48, hP48_0⟩, hE48⟩ := h48
          have hE48 := hE48.symm
          subst hE48
          clear hl48 hh48
          have hz48 : jEq y48.toInt (jsy (g.toInt) (i8n16.toInt) ((x2.toInt) + (x3.toInt))) := hP48_0
          clear hP48_0
          refine Jz_iadd jEq.rf hz48 dX4_extend_51 (by omega) (by omega) (fun y51 he51 => ?_)
          refine J_istore dX4_extend_52 rfl (by decide) ?_
          refine J_iload dX4_extend_54 rfl ?_
          refine J_iload dX4_extend_56 rfl ?_
          refine J_iload dX4_extend_58 rfl ?_
          refine J_callS2 moX0_shiftZ jw_ml_X4_92 jw_st_X0_shiftZ dX4_extend_60 (w_X0_shiftZ_z (d - 1) _ g i8n16 (by omega)   (by omega) (by omega) (by omega) (by omega)) (by omega) (Nat.zero_le _) (Nat.zero_le _) (Nat.le_of_ble_eq_true rfl) (fun r60 V60 h60 => ?_)
          obtain ⟨⟨y60, rfl, hl60, hh60, hP60_0⟩, hE60⟩ := h60
          have hE60 := hE60.symm
          subst hE60
          clear hl60 hh60
          have hz60 : jEq y60.toInt (jsz (g.toInt) (i8n16.toInt)) := hP60_0
          clear hP60_0
          refine Jz_iadd jEq.rf hz60 dX4_extend_63 (by omega) (by omega) (fun y63 he63 => ?_)
          refine J_istore dX4_extend_64 rfl (by decide) ?_
          refine J_aload_n dX4_extend_66 rfl ?_
          refine J_iload dX4_extend_67 rfl ?_
          refine J_iload dX4_extend_69 rfl ?_
          refine J_iload dX4_extend_71 rfl ?_
          refine Jw_callV3 (q9 := (RX4, TX4, 14)) moX4_cellOf jw_ml_X4_62 jw_im_X4_cellOf jw_se_X4_cellOf ha0 rfl rfl dX4_extend_73 (w_X4_cellOf_z (d - 1) _ a0 y38 y51 y63 g R sd (by omega) hW  ha0 ⟨_, hOgs16a0, hFgs16a0_0⟩ ⟨_, hOgs16a0, hFgs16a0_1⟩ ⟨_, hOgs16a0, hFgs16a0_2⟩ (by omega) (by omega) (by omega) (by omega) (by (try simp only [he38.eq, true_and, and_true]) <;> omega) (by (try simp only [he38.eq, true_and, and_true]) <;> omega) (by (try simp only [he51.eq, true_and, and_true]) <;> omega) (by (try simp only [he51.eq, true_and, and_true]) <;> omega) (by (try simp only [he63.eq, true_and, and_true]) <;> omega) (by (try simp only [he63.eq, true_and, and_true]) <;> omega)) (by omega) (Nat.zero_le _) (Nat.zero_le _) (Nat.le_of_ble_eq_true rfl) (fun r73 V73 h73 => ?_)
          obtain ⟨⟨y73, rfl, hl73, hh73, hP73_0⟩, hE73⟩ := h73
          have hE73 := hE73.symm
          subst hE73
          clear hl73 hh73
          try simp only [he38.eq, he51.eq, he63.eq] at hP73_0
          have hz73 : jEq y73.toInt (jcell (g.toInt) ((x2.toInt + (jsx (g.toInt) (i8n16.toInt))), (x3.toInt + (jsy (g.toInt) (i8n16.toInt) ((x2.toInt) + (x3.toInt)))), (x4.toInt + (jsz (g.toInt) (i8n16.toInt))))) := hP73_0
          clear hP73_0
          refine J_istore dX4_extend_76 rfl (by decide) ?_
          refine J_aload_n dX4_extend_78 rfl ?_
          refine J_iload dX4_extend_79 rfl ?_
          refine Jw_callV1 (q9 := (RX4, TX4, 14)) moX4_isTaken jw_ml_X4_95 jw_im_X4_isTaken jw_se_X4_isTaken ha0 rfl rfl dX4_extend_81 (w_X4_isTaken_z (d - 1) _ a0 y73 tk F2n16 (by omega) hW  ha0 ⟨_, hOgs16a0, hFgs16a0_3⟩ hAF2n16 (by (try simp only [hz73.eq, true_and, and_true]) <;> omega) (by (try simp only [hz73.eq, true_and, and_true]) <;> omega) (by omega)) (by omega) (Nat.zero_le _) (Nat.zero_le _) (Nat.le_of_ble_eq_true rfl) (fun r81 V81 h81 => ?_)
          obtain ⟨⟨y81, rfl, hl81, hh81, hP81_0⟩, hE81⟩ := h81
          have hE81 := hE81.symm
          subst hE81
          try simp only [hz73.eq] at hP81_0
          have htq : (F2n16 (jcell g.toInt ((x2.toInt + jsx g.toInt i8n16.toInt), (x3.toInt + jsy g.toInt i8n16.toInt (x2.toInt + x3.toInt)), (x4.toInt + jsz g.toInt i8n16.toInt))).toNat).toInt = 0 ↔ ¬ (jnx g.toInt i8n16.toInt (x2.toInt, x3.toInt, x4.toInt)) ∈ l := htk _ hPin
          refine Jz_if_eq (tgt := 90) jEq.rf dX4_extend_84 (by decide) (fun c84 => ?_) (fun c84 => ?_)
          · have hnin : ¬ (jnx g.toInt i8n16.toInt (x2.toInt, x3.toInt, x4.toInt)) ∈ l := htq.mp (hP81_0.elim (fun q => absurd q.1 (by omega)) (fun q => q.2))
            have hnr2 : jnr g.toInt (x1.toInt + 1) ((jnx g.toInt i8n16.toInt (x2.toInt, x3.toInt, x4.toInt)) :: l) := hp14.step hmem
            have htc : jtpc ((jnx g.toInt i8n16.toInt (x2.toInt, x3.toInt, x4.toInt)) :: l) = if (x2.toInt + jsx g.toInt i8n16.toInt) ≤ 0 then 1000 else if jtpc l < (x2.toInt + jsx g.toInt i8n16.toInt) then (x2.toInt + jsx g.toInt i8n16.toInt) else jtpc l := jtpc_step (m := x1.toInt.toNat) hp12 (by omega) (by omega) hnr2
            refine J_iload dX4_extend_90 rfl ?_
            have K108 : ∀ (t0k108 : Int32), (t0k108.toInt = jtpc ((jnx g.toInt i8n16.toInt (x2.toInt, x3.toInt, x4.toInt)) :: l)) → J tS mX4_extend d 108 [some (.ref a0), some (.int x1), some (.int x2), some (.int x3), some (.int x4), some (.int x5), some (.int g), some (.int y8), some (.int i8n16), some (.int y38), some (.int y51), some (.int y63), some (.int y73), none] [.int t0k108] V 0 0 (fun r V => (jPost [.inr 2, .inl 1, .inl 2, .inl 8, .inl 37, .inl 38] V0 rV) r V ∧ (∃ (TK2 WC2 : Nat → Int32) (SQ2 : Nat → Int64) (RC2 BC2 : Nat → Int32) (sp2 : Int32), V tk = some (.inl (2, ln, .inl TK2)) ∧ V wc = some (.inl (8, 21, .inl WC2)) ∧ V sq = some (.inl (1, 21, .inr (.inl SQ2))) ∧ V rc = some (.inl (37, 21, .inl RC2)) ∧ V bc = some (.inl (38, 21, .inl BC2)) ∧ jfI V a0 2 13 sp2 ∧ jtk g.toInt TK2 l ∧ jac WC2 SQ2 RC2 BC2 lv.toInt.toNat = jcw g.toInt (jfzs g.toInt tg.toInt) (lv.toInt - x1.toInt).toNat l (jac WC SQ RC BC lv.toInt.toNat) ∧ 0 ≤ (WC2 lv.toInt.toNat).toInt ∧ (WC2 lv.toInt.toNat).toInt ≤ 600001 - tg.toInt ∧ ((sp2.toInt = 1 ∧ 600000 < tg.toInt + (WC2 lv.toInt.toNat).toInt) ∨ (sp2.toInt = 0 ∧ ¬ 600000 < tg.toInt + (WC2 lv.toInt.toNat).toInt)) ∧ jot WC2 SQ2 RC2 BC2 WC SQ RC BC lv.toInt.toNat) ∧ jfp [a0, tk, wc, sq, rc, bc] V0 V ∧ (∃ g2 : Int32, jfI V a0 2 0 g2 ∧ (g2.toInt = g.toInt)) ∧ (∃ R2 : Int32, jfI V a0 2 1 R2 ∧ (R2.toInt = R.toInt)) ∧ (∃ sd2 : Int32, jfI V a0 2 2 sd2 ∧ (sd2.toInt = sd.toInt)) ∧ (∃ lv2 : Int32, jfI V a0 2 10 lv2 ∧ (lv2.toInt = lv.toInt)) ∧ (∃ cd2 : Int32, jfI V a0 2 11 cd2 ∧ (cd2.toInt = cd.toInt)) ∧ (∃ tg2 : Int32, jfI V a0 2 12 tg2 ∧ (tg2.toInt = tg.toInt))) := by
              intro  t0k108     hk108_0
              refine J_istore dX4_extend_108 rfl (by decide) ?_
              refine J_iload_n dX4_extend_110 rfl ?_
              refine Jz_iconst 1 dX4_extend_111 (by decide) (fun y111 he111 => ?_)
              refine Jz_iadd jEq.rf he111 dX4_extend_112 (by omega) (by omega) (fun y112 he112 => ?_)
              refine J_aload_n dX4_extend_113 rfl ?_
              refine J_get jf_X4_31 dX4_extend_114 hOgs16a0 hFgs16a0_10 ?_
              refine Jz_icmp_lt (tgt := 135) he112 jEq.rf dX4_extend_117 (by decide) (fun c117 => ?_) (fun c117 => ?_)
              · refine J_aload_n dX4_extend_135 rfl ?_
                refine J_iload dX4_extend_136 rfl ?_
                refine Jz_iconst 1 dX4_extend_138 (by decide) (fun y138 he138 => ?_)
                refine Jw_callV2 (q9 := (RX4, TX4, 14)) moX4_setTaken jw_ml_X4_66 jw_im_X4_setTaken jw_se_X4_setTaken ha0 rfl rfl dX4_extend_139 (w_X4_setTaken_z (d - 1) _ a0 y73 y138 tk F2n16 (by omega) hW  ha0 (by (try simp only [he138.eq, true_and, and_true]) <;> omega) (by (try simp only [he138.eq, true_and, and_true]) <;> omega) ⟨_, hOgs16a0, hFgs16a0_3⟩ hAF2n16 (by rw [hz73.eq]; omega) (by rw [hz73.eq]; omega) (by omega)) (by omega) (Nat.zero_le _) (Nat.zero_le _) (Nat.le_of_ble_eq_true rfl) (fun r139 V139 h139 => ?_)
                obtain ⟨h139, hX139_0, hX139_1⟩ := h139
                obtain ⟨hW, hx139, hr139⟩ := h139
                have he := he.trans (hx139.sub (jsub_of rfl))
                have hfp := hfp.trans (hX139_1.sub (fun b hb => by simp only [List.mem_cons, List.not_mem_nil, or_false] at hb ⊢; first | (rcases hb with h9 <;> simp only [h9, true_or, or_true]) | omega))
                have ha0 := ha0.mono hx139.1
                have hb_tk := hb_tk.mono hx139.1
                have hb_wc := hb_wc.mono hx139.1
                have hb_sq := hb_sq.mono hx139.1
                have hb_rc := hb_rc.mono hx139.1
                have hb_bc := hb_bc.mono hx139.1
                have hOgs16a0 := hx139.2 _ _ hOgs16a0 (jnot_of rfl)
                have hKgs16a0 := hKgs16a0.mono hx139.1
                have hAF8n16 := hx139.2 _ _ hAF8n16 (jnot_of rfl)
                have hAF1n16 := hx139.2 _ _ hAF1n16 (jnot_of rfl)
                have hAF37n16 := hx139.2 _ _ hAF37n16 (jnot_of rfl)
                have hAF38n16 := hx139.2 _ _ hAF38n16 (jnot_of rfl)
                cases hr139
                obtain ⟨TK139, hTa139, hTn139, hTo139⟩ := hX139_0
                simp only [hz73.eq] at hTn139 hTo139
                have htk139 : jtk g.toInt TK139 ((jnx g.toInt i8n16.toInt (x2.toInt, x3.toInt, x4.toInt)) :: l) := htk.set hPin (by show ¬ (TK139 (jcell g.toInt ((x2.toInt + jsx g.toInt i8n16.toInt), (x3.toInt + jsy g.toInt i8n16.toInt (x2.toInt + x3.toInt)), (x4.toInt + jsz g.toInt i8n16.toInt))).toNat).toInt = 0; rw [hTn139, he138.eq]; decide) hTo139
                obtain ⟨hN_TK139, hv_TK139⟩ := WT_rngI (r := (0, 1)) hW id rfl hTa139
                clear hN_TK139
                refine J_aload_n dX4_extend_142 rfl ?_
                refine J_iload_n dX4_extend_143 rfl ?_
                refine Jz_iconst 1 dX4_extend_144 (by decide) (fun y144 he144 => ?_)
                refine Jz_iadd jEq.rf he144 dX4_extend_145 (by omega) (by omega) (fun y145 he145 => ?_)
                refine J_iload dX4_extend_146 rfl ?_
                refine J_iload dX4_extend_148 rfl ?_
                refine J_iload dX4_extend_150 rfl ?_
                refine J_iload dX4_extend_152 rfl ?_
                refine J_callS6 moX4_extend jw_ml_X4_70 jw_st_X4_extend dX4_extend_154 (IH (d - 1) _ a0 y145 y38 y51 y63 t0k108 g R sd lv cd tg g13n16 tk wc sq rc bc ln ((jnx g.toInt i8n16.toInt (x2.toInt, x3.toInt, x4.toInt)) :: l) TK139 F8n16 F1n16 F37n16 F38n16 (by omega) hW ha0 (by (try simp only [he145.eq, true_and, and_true]) <;> omega) (by (try simp only [he145.eq, true_and, and_true]) <;> omega) ⟨_, hOgs16a0, hFgs16a0_0⟩ ⟨_, hOgs16a0, hFgs16a0_1⟩ ⟨_, hOgs16a0, hFgs16a0_2⟩ ⟨_, hOgs16a0, hFgs16a0_10⟩ ⟨_, hOgs16a0, hFgs16a0_11⟩ ⟨_, hOgs16a0, hFgs16a0_12⟩ ⟨_, hOgs16a0, hFgs16a0_13⟩ ⟨_, hOgs16a0, hFgs16a0_3⟩ ⟨_, hOgs16a0, hFgs16a0_4⟩ ⟨_, hOgs16a0, hFgs16a0_5⟩ ⟨_, hOgs16a0, hFgs16a0_6⟩ ⟨_, hOgs16a0, hFgs16a0_7⟩ hTa139 hAF8n16 hAF1n16 hAF37n16 hAF38n16 (by omega) (by omega) (by omega) (by omega) (by omega) (by rw [he145.eq]; omega) (by omega) (by omega) (by omega) (by omega) (by omega) (by omega) (by rw [List.length_cons, hp12, he145.eq]; omega) (by rw [he38.eq, he51.eq, he63.eq]; rfl) (by rw [he145.eq]; exact hnr2) htk139 hk108_0 (by (try simp only [he145.eq, he38.eq, he51.eq, he63.eq, true_and, and_true]) <;> omega)) (by omega) (Nat.zero_le _) (Nat.zero_le _) (Nat.le_of_ble_eq_true rfl) (fun r154 V154 h154 => ?_)
                obtain ⟨h154, hX154_0, hX154_1, ⟨fv154_0, hfv154_0, hfp154_0⟩, ⟨fv154_1, hfv154_1, hfp154_1⟩, ⟨fv154_2, hfv154_2, hfp154_2⟩, ⟨fv154_3, hfv154_3, hfp154_3⟩, ⟨fv154_4, hfv154_4, hfp154_4⟩, ⟨fv154_5, hfv154_5, hfp154_5⟩⟩ := h154
                obtain ⟨hW, hx154, hr154⟩ := h154
                have he := he.trans (hx154.sub (jsub_of rfl))
                have hfp := hfp.trans (hX154_1.sub (fun b hb => by simp only [List.mem_cons, List.not_mem_nil, or_false] at hb ⊢; first | (rcases hb with h9 | h9 | h9 | h9 | h9 | h9 <;> simp only [h9, true_or, or_true]) | omega))
                have ha0 := ha0.mono hx154.1
                have hb_tk := hb_tk.mono hx154.1
                have hb_wc := hb_wc.mono hx154.1
                have hb_sq := hb_sq.mono hx154.1
                have hb_rc := hb_rc.mono hx154.1
                have hb_bc := hb_bc.mono hx154.1
                obtain ⟨fs154a0, hOfs154a0, hRfs154a0⟩ := hx154.1.keep hOgs16a0
                have hKfs154a0 : jokO _ (jFs 2) fs154a0 := hW _ _ id hOfs154a0
                have hFfs154a0_3 := hRfs154a0 _ _ hFgs16a0_3
                have hFfs154a0_4 := hRfs154a0 _ _ hFgs16a0_4
                have hFfs154a0_5 := hRfs154a0 _ _ hFgs16a0_5
                have hFfs154a0_6 := hRfs154a0 _ _ hFgs16a0_6
                have hFfs154a0_7 := hRfs154a0 _ _ hFgs16a0_7
                cases hr154
                have hFv154_0 := hfv154_0.get hOfs154a0
                try simp only [he145.eq, he38.eq, he51.eq, he63.eq] at hfp154_0
                have hsb154_0 : g = fv154_0 := (jI_inj.mp hfp154_0).symm
                subst hsb154_0
                have hFv154_1 := hfv154_1.get hOfs154a0
                try simp only [he145.eq, he38.eq, he51.eq, he63.eq] at hfp154_1
                have hsb154_1 : R = fv154_1 := (jI_inj.mp hfp154_1).symm
                subst hsb154_1
                have hFv154_2 := hfv154_2.get hOfs154a0
                try simp only [he145.eq, he38.eq, he51.eq, he63.eq] at hfp154_2
                have hsb154_2 : sd = fv154_2 := (jI_inj.mp hfp154_2).symm
                subst hsb154_2
                have hFv154_3 := hfv154_3.get hOfs154a0
                try simp only [he145.eq, he38.eq, he51.eq, he63.eq] at hfp154_3
                have hsb154_3 : lv = fv154_3 := (jI_inj.mp hfp154_3).symm
                subst hsb154_3
                have hFv154_4 := hfv154_4.get hOfs154a0
                try simp only [he145.eq, he38.eq, he51.eq, he63.eq] at hfp154_4
                have hsb154_4 : cd = fv154_4 := (jI_inj.mp hfp154_4).symm
                subst hsb154_4
                have hFv154_5 := hfv154_5.get hOfs154a0
                try simp only [he145.eq, he38.eq, he51.eq, he63.eq] at hfp154_5
                have hsb154_5 : tg = fv154_5 := (jI_inj.mp hfp154_5).symm
                subst hsb154_5
                obtain ⟨TK154, WC154, SQ154, RC154, BC154, sp154, hTa154, hWa154, hSa154, hRa154, hBa154, hspf154, htk154, hea, hew0, hew1, hes, heo⟩ := hX154_0
                rw [he145.eq, show (lv.toInt - (x1.toInt + 1)).toNat = (lv.toInt - x1.toInt - 1).toNat by omega] at hea
                have hFv15413 := hspf154.get hOfs154a0
                obtain ⟨hN_TK154, hv_TK154⟩ := WT_rngI (r := (0, 1)) hW id rfl hTa154
                clear hN_TK154
                obtain ⟨hN_WC154, hv_WC154⟩ := WT_rngI (r := ((-2147483648), 2147483647)) hW id rfl hWa154
                clear hN_WC154
                obtain ⟨hN_RC154, hv_RC154⟩ := WT_rngI (r := ((-2147483648), 2147483647)) hW id rfl hRa154
                clear hN_RC154
                obtain ⟨hN_BC154, hv_BC154⟩ := WT_rngI (r := ((-2147483648), 2147483647)) hW id rfl hBa154
                clear hN_BC154
                refine J_aload_n dX4_extend_157 rfl ?_
                refine J_iload dX4_extend_158 rfl ?_
                refine Jz_iconst 0 dX4_extend_160 (by decide) (fun y160 he160 => ?_)
                refine Jw_callV2 (q9 := (RX4, TX4, 14)) moX4_setTaken jw_ml_X4_66 jw_im_X4_setTaken jw_se_X4_setTaken ha0 rfl rfl dX4_extend_161 (w_X4_setTaken_z (d - 1) _ a0 y73 y160 tk TK154 (by omega) hW  ha0 (by (try simp only [he160.eq, true_and, and_true]) <;> omega) (by (try simp only [he160.eq, true_and, and_true]) <;> omega) ⟨_, hOfs154a0, hFfs154a0_3⟩ hTa154 (by rw [hz73.eq]; omega) (by rw [hz73.eq]; omega) (by omega)) (by omega) (Nat.zero_le _) (Nat.zero_le _) (Nat.le_of_ble_eq_true rfl) (fun r161 V161 h161 => ?_)
                obtain ⟨h161, hX161_0, hX161_1⟩ := h161
                obtain ⟨hW, hx161, hr161⟩ := h161
                have he := he.trans (hx161.sub (jsub_of rfl))
                have hfp := hfp.trans (hX161_1.sub (fun b hb => by simp only [List.mem_cons, List.not_mem_nil, or_false] at hb ⊢; first | (rcases hb with h9 <;> simp only [h9, true_or, or_true]) | omega))
                have ha0 := ha0.mono hx161.1
                have hb_tk := hb_tk.mono hx161.1
                have hb_wc := hb_wc.mono hx161.1
                have hb_sq := hb_sq.mono hx161.1
                have hb_rc := hb_rc.mono hx161.1
                have hb_bc := hb_bc.mono hx161.1
                have hOfs154a0 := hx161.2 _ _ hOfs154a0 (jnot_of rfl)
                have hKfs154a0 := hKfs154a0.mono hx161.1
                have hWa154 := hx161.2 _ _ hWa154 (jnot_of rfl)
                have hSa154 := hx161.2 _ _ hSa154 (jnot_of rfl)
                have hRa154 := hx161.2 _ _ hRa154 (jnot_of rfl)
                have hBa154 := hx161.2 _ _ hBa154 (jnot_of rfl)
                cases hr161
                obtain ⟨TK161, hTa161, hTn161, hTo161⟩ := hX161_0
                simp only [hz73.eq] at hTn161 hTo161
                have htk2 : jtk g.toInt TK161 l := htk154.clr hnin hPin (by show (TK161 (jcell g.toInt ((x2.toInt + jsx g.toInt i8n16.toInt), (x3.toInt + jsy g.toInt i8n16.toInt (x2.toInt + x3.toInt)), (x4.toInt + jsz g.toInt i8n16.toInt))).toNat).toInt = 0; rw [hTn161, he160.eq]) hTo161
                obtain ⟨hN_TK161, hv_TK161⟩ := WT_rngI (r := (0, 1)) hW id rfl hTa161
                clear hN_TK161
                refine Jz_iinc 1 dX4_extend_164 rfl rfl (by decide) jEq.rf (by decide) (by omega) (by omega) (fun y164 he164 => ?_)
                refine J_goto (tgt := 16) dX4_extend_167 (by decide) ?_
                refine J.mask [true, true, true, true, true, true, true, true, true, false, false, false, false, false] ?_
                exact ih16 _ y164 fs154a0 sp154 TK161 WC154 SQ154 RC154 BC154 hW he ha0 hb_tk hb_wc hb_sq hb_rc hb_bc hfp hOfs154a0 hFv154_0 hFv154_1 hFv154_2 hFv154_3 hFv154_4 hFv154_5 hFv15413 hFfs154a0_3 hFfs154a0_4 hFfs154a0_5 hFfs154a0_6 hFfs154a0_7 hTa161 hWa154 hSa154 hRa154 hBa154 (by (try simp only [he164.eq, true_and, and_true]) <;> omega) htk2 (by rw [he164.eq, hjs, jcs_no (by rw [hp13, show ((i8n16.toInt.toNat : Nat) : Int) = i8n16.toInt from Int.toNat_of_nonneg (by omega)]; exact hnin), hp13, show ((i8n16.toInt.toNat : Nat) : Int) = i8n16.toInt from Int.toNat_of_nonneg (by omega), hea]) (by (try simp only [he164.eq, true_and, and_true]) <;> omega) (by (try simp only [he164.eq, true_and, and_true]) <;> omega) (hoth.trans heo) (by (try simp only [he164.eq, true_and, and_true]) <;> omega)
              · refine J_aload_n dX4_extend_120 rfl ?_
                refine J_iload dX4_extend_121 rfl ?_
                refine J_iload dX4_extend_123 rfl ?_
                refine J_iload dX4_extend_125 rfl ?_
                refine J_iload dX4_extend_127 rfl ?_
                refine Jw_callV4 (q9 := (RX4, TX4, 14)) moX4_score jw_ml_X4_104 jw_im_X4_score jw_se_X4_score ha0 rfl rfl dX4_extend_129 (w_X4_score_z (d - 1) _ a0 y38 y51 y63 t0k108 g R sd lv cd tg wc sq rc bc ((jnx g.toInt i8n16.toInt (x2.toInt, x3.toInt, x4.toInt)) :: l) F8n16 F1n16 F37n16 F38n16 (by omega) hW  ha0 ⟨_, hOgs16a0, hFgs16a0_0⟩ ⟨_, hOgs16a0, hFgs16a0_1⟩ ⟨_, hOgs16a0, hFgs16a0_2⟩ ⟨_, hOgs16a0, hFgs16a0_10⟩ ⟨_, hOgs16a0, hFgs16a0_11⟩ ⟨_, hOgs16a0, hFgs16a0_12⟩ ⟨_, hOgs16a0, hFgs16a0_4⟩ ⟨_, hOgs16a0, hFgs16a0_5⟩ ⟨_, hOgs16a0, hFgs16a0_6⟩ ⟨_, hOgs16a0, hFgs16a0_7⟩ hAF8n16 hAF1n16 hAF37n16 hAF38n16 (by omega) (by omega) (by omega) (by omega) (by simp only [he38.eq, he51.eq, he63.eq]; omega) (by simp only [he38.eq, he51.eq, he63.eq]; omega) (by simp only [he38.eq, he51.eq, he63.eq]; omega) (by simp only [he38.eq, he51.eq, he63.eq]; omega) (by simp only [he38.eq, he51.eq, he63.eq]; omega) (by simp only [he38.eq, he51.eq, he63.eq]; omega) (by omega) (by omega) (by omega) (by omega) (by rw [he38.eq, he51.eq, he63.eq]; rfl) (by rw [hk108_0]; exact jtpc_bridge (m := x1.toInt.toNat) (by rw [List.length_cons, hp12]) (by omega) (by omega) hnr2 (show _ = (y38.toInt, y51.toInt, y63.toInt) by rw [he38.eq, he51.eq, he63.eq]; rfl))) (by omega) (Nat.zero_le _) (Nat.zero_le _) (Nat.le_of_ble_eq_true rfl) (fun r129 V129 h129 => ?_)
                obtain ⟨h129, hX129_0, hX129_1, ⟨fv129_0, hfv129_0, hfp129_0⟩, ⟨fv129_1, hfv129_1, hfp129_1⟩, ⟨fv129_2, hfv129_2, hfp129_2⟩, ⟨fv129_3, hfv129_3, hfp129_3⟩, ⟨fv129_4, hfv129_4, hfp129_4⟩, ⟨fv129_5, hfv129_5, hfp129_5⟩⟩ := h129
                obtain ⟨hW, hx129, hr129⟩ := h129
                have he := he.trans (hx129.sub (jsub_of rfl))
                have hfp := hfp.trans (hX129_1.sub (fun b hb => by simp only [List.mem_cons, List.not_mem_nil, or_false] at hb ⊢; first | (rcases hb with h9 | h9 | h9 | h9 | h9 <;> simp only [h9, true_or, or_true]) | omega))
                have ha0 := ha0.mono hx129.1
                have hb_tk := hb_tk.mono hx129.1
                have hb_wc := hb_wc.mono hx129.1
                have hb_sq := hb_sq.mono hx129.1
                have hb_rc := hb_rc.mono hx129.1
                have hb_bc := hb_bc.mono hx129.1
                obtain ⟨fs129a0, hOfs129a0, hRfs129a0⟩ := hx129.1.keep hOgs16a0
                have hKfs129a0 : jokO _ (jFs 2) fs129a0 := hW _ _ id hOfs129a0
                have hFfs129a0_3 := hRfs129a0 _ _ hFgs16a0_3
                have hFfs129a0_4 := hRfs129a0 _ _ hFgs16a0_4
                have hFfs129a0_5 := hRfs129a0 _ _ hFgs16a0_5
                have hFfs129a0_6 := hRfs129a0 _ _ hFgs16a0_6
                have hFfs129a0_7 := hRfs129a0 _ _ hFgs16a0_7
                have hAF2n16 := hx129.2 _ _ hAF2n16 (jnot_of rfl)
                cases hr129
                have hFv129_0 := hfv129_0.get hOfs129a0
                try simp only [he38.eq, he51.eq, he63.eq] at hfp129_0
                have hsb129_0 : g = fv129_0 := (jI_inj.mp hfp129_0).symm
                subst hsb129_0
                have hFv129_1 := hfv129_1.get hOfs129a0
                try simp only [he38.eq, he51.eq, he63.eq] at hfp129_1
                have hsb129_1 : R = fv129_1 := (jI_inj.mp hfp129_1).symm
                subst hsb129_1
                have hFv129_2 := hfv129_2.get hOfs129a0
                try simp only [he38.eq, he51.eq, he63.eq] at hfp129_2
                have hsb129_2 : sd = fv129_2 := (jI_inj.mp hfp129_2).symm
                subst hsb129_2
                have hFv129_3 := hfv129_3.get hOfs129a0
                try simp only [he38.eq, he51.eq, he63.eq] at hfp129_3
                have hsb129_3 : lv = fv129_3 := (jI_inj.mp hfp129_3).symm
                subst hsb129_3
                have hFv129_4 := hfv129_4.get hOfs129a0
                try simp only [he38.eq, he51.eq, he63.eq] at hfp129_4
                have hsb129_4 : cd = fv129_4 := (jI_inj.mp hfp129_4).symm
                subst hsb129_4
                have hFv129_5 := hfv129_5.get hOfs129a0
                try simp only [he38.eq, he51.eq, he63.eq] at hfp129_5
                have hsb129_5 : tg = fv129_5 := (jI_inj.mp hfp129_5).symm
                subst hsb129_5
                obtain ⟨WC129, SQ129, RC129, BC129, sp129, hWa129, hSa129, hRa129, hBa129, hspf129, hsc1, hsw1, hss1, hso1⟩ := hX129_0
                have e9 : jcw g.toInt (jfzs g.toInt tg.toInt) (lv.toInt - x1.toInt - 1).toNat ((jnx g.toInt i8n16.toInt (x2.toInt, x3.toInt, x4.toInt)) :: l) (jac F8n16 F1n16 F37n16 F38n16 lv.toInt.toNat) = jsc g.toInt ((jnx g.toInt i8n16.toInt (x2.toInt, x3.toInt, x4.toInt)) :: l) (jac F8n16 F1n16 F37n16 F38n16 lv.toInt.toNat) := by
                  rw [show (lv.toInt - x1.toInt - 1).toNat = 0 by omega]
                  exact if_neg (show ¬ (600000 - tg.toInt).toNat < (F8n16 lv.toInt.toNat).toInt.toNat by omega)
                have hFv12913 := hspf129.get hOfs129a0
                obtain ⟨hN_WC129, hv_WC129⟩ := WT_rngI (r := ((-2147483648), 2147483647)) hW id rfl hWa129
                clear hN_WC129
                obtain ⟨hN_RC129, hv_RC129⟩ := WT_rngI (r := ((-2147483648), 2147483647)) hW id rfl hRa129
                clear hN_RC129
                obtain ⟨hN_BC129, hv_BC129⟩ := WT_rngI (r := ((-2147483648), 2147483647)) hW id rfl hBa129
                clear hN_BC129
                refine J_goto (tgt := 164) dX4_extend_132 (by decide) ?_
                refine Jz_iinc 1 dX4_extend_164 rfl rfl (by decide) jEq.rf (by decide) (by omega) (by omega) (fun y164 he164 => ?_)
                refine J_goto (tgt := 16) dX4_extend_167 (by decide) ?_
                refine J.mask [true, true, true, true, true, true, true, true, true, false, false, false, false, false] ?_
                exact ih16 _ y164 fs129a0 sp129 F2n16 WC129 SQ129 RC129 BC129 hW he ha0 hb_tk hb_wc hb_sq hb_rc hb_bc hfp hOfs129a0 hFv129_0 hFv129_1 hFv129_2 hFv129_3 hFv129_4 hFv129_5 hFv12913 hFfs129a0_3 hFfs129a0_4 hFfs129a0_5 hFfs129a0_6 hFfs129a0_7 hAF2n16 hWa129 hSa129 hRa129 hBa129 (by (try simp only [he164.eq, true_and, and_true]) <;> omega) htk (by rw [he164.eq, hjs, jcs_no (by rw [hp13, show ((i8n16.toInt.toNat : Nat) : Int) = i8n16.toInt from Int.toNat_of_nonneg (by omega)]; exact hnin), hp13, show ((i8n16.toInt.toNat : Nat) : Int) = i8n16.toInt from Int.toNat_of_nonneg (by omega), e9, hsc1]) (by (try simp only [he164.eq, true_and, and_true]) <;> omega) (by (try simp only [he164.eq, true_and, and_true]) <;> omega) (hoth.trans hso1) (by (try simp only [he164.eq, true_and, and_true]) <;> omega)
            refine Jz_if_gt (tgt := 101) he38 dX4_extend_92 (by decide) (fun c92 => ?_) (fun c92 => ?_)
            · refine J_iload dX4_extend_101 rfl ?_
              refine J_iload dX4_extend_103 rfl ?_
              refine J_mmax jw_ml_X4_99 dX4_extend_105 (by omega) (Nat.le_of_ble_eq_true rfl) ?_
              have hz105 : jEq (if x5 < y38 then y38 else x5).toInt (if x5.toInt < (x2.toInt + jsx g.toInt i8n16.toInt) then (x2.toInt + jsx g.toInt i8n16.toInt) else x5.toInt) := by have q := jmaxi (x := x5) (y := y38) jEq.rf he38; exact (show (if x5 < y38 then y38 else x5).toInt = if x5.toInt < (x2.toInt + jsx g.toInt i8n16.toInt) then (x2.toInt + jsx g.toInt i8n16.toInt) else x5.toInt by omega)
              generalize (if x5 < y38 then y38 else x5) = y105 at hz105 ⊢
              exact K108  y105  (by rw [htc, if_neg (by omega), ← hp16]; exact hz105.eq)
            · refine Jz_sipush 1000 dX4_extend_95 (by decide) (fun y95 he95 => ?_)
              refine J_goto (tgt := 108) dX4_extend_98 (by decide) ?_
              exact K108  y95  (by rw [htc, if_pos (by omega)]; exact he95.eq)
          · have hin : (jnx g.toInt i8n16.toInt (x2.toInt, x3.toInt, x4.toInt)) ∈ l := Classical.byContradiction (fun z => hP81_0.elim (fun q => q.2 (htq.mpr z)) (fun q => c84 q.1))
            refine J_goto (tgt := 164) dX4_extend_87 (by decide) ?_
            refine Jz_iinc 1 dX4_extend_164 rfl rfl (by decide) jEq.rf (by decide) (by omega) (by omega) (fun y164 he164 => ?_)
            refine J_goto (tgt := 16) dX4_extend_167 (by decide) ?_
            refine J.mask [true, true, true, true, true, true, true, true, true, false, false, false, false, false] ?_
            exact ih16 _ y164 gs16a0 g13n16 F2n16 F8n16 F1n16 F37n16 F38n16 hW he ha0 hb_tk hb_wc hb_sq hb_rc hb_bc hfp hOgs16a0 hFgs16a0_0 hFgs16a0_1 hFgs16a0_2 hFgs16a0_10 hFgs16a0_11 hFgs16a0_12 hFgs16a0_13 hFgs16a0_3 hFgs16a0_4 hFgs16a0_5 hFgs16a0_6 hFgs16a0_7 hAF2n16 hAF8n16 hAF1n16 hAF37n16 hAF38n16 (by (try simp only [he164.eq, true_and, and_true]) <;> omega) htk (by rw [he164.eq, hjs, jcs_yes (by rw [hp13, show ((i8n16.toInt.toNat : Nat) : Int) = i8n16.toInt from Int.toNat_of_nonneg (by omega)]; exact hin)]) (by (try simp only [he164.eq, true_and, and_true]) <;> omega) (by (try simp only [he164.eq, true_and, and_true]) <;> omega) hoth (by (try simp only [he164.eq, true_and, and_true]) <;> omega)
  refine J.mask [true, true, true, true, true, true, true, true, true, false, false, false, false, false] ?_
  exact L16 _ _ y13 fs_a0 sp TK WC SQ RC BC hW he ha0 hb_tk hb_wc hb_sq hb_rc hb_bc hfp hO_a0 hF_g hF_R hF_sd hF_lv hF_cd hF_tg hF_sp hF_tk hF_wc hF_sq hF_rc hF_bc ha_TK ha_WC ha_SQ ha_RC ha_BC (by (try simp only [he13.eq, true_and, and_true]) <;> omega) hp15 (by rw [he13.eq, show (jdir g.toInt - 0).toNat = (jdir g.toInt).toNat by omega, show (lv.toInt - x1.toInt).toNat = (lv.toInt - x1.toInt - 1).toNat + 1 by omega]; rfl) (by (try simp only [he13.eq, true_and, and_true]) <;> omega) (by (try simp only [he13.eq, true_and, and_true]) <;> omega) jot.rf (Nat.lt_succ_self _)
set_option maxRecDepth 100000 in
set_option maxHeartbeats 8000000 in
theorem w_X4_countLevel_z {tS : jTS} (d : Nat) (V0 : jH) (a0 : Nat) (x1 : Int32) (g : Int32) (R : Int32) (sd : Int32) (cd : Int32) (tg : Int32) (sp : Int32) (tk : Nat) (wc : Nat) (sq : Nat) (rc : Nat) (bc : Nat) (ln : Nat) (TK : Nat → Int32) (WC : Nat → Int32) (SQ : Nat → Int64) (RC : Nat → Int32) (BC : Nat → Int32) (hd : 26 ≤ d) (hW : WT V0) (ha0 : jis V0 (.inr 2) a0) (hl1 : 0 ≤ x1.toInt) (hh1 : x1.toInt ≤ 20) (hf_g : jfI V0 a0 2 0 g) (hf_R : jfI V0 a0 2 1 R) (hf_sd : jfI V0 a0 2 2 sd) (hf_cd : jfI V0 a0 2 11 cd) (hf_tg : jfI V0 a0 2 12 tg) (hf_sp : jfI V0 a0 2 13 sp) (hr_tk : jfR V0 a0 2 3 tk) (hr_wc : jfR V0 a0 2 4 wc) (hr_sq : jfR V0 a0 2 5 sq) (hr_rc : jfR V0 a0 2 6 rc) (hr_bc : jfR V0 a0 2 7 bc) (ha_TK : V0 tk = some (.inl (2, ln, .inl TK))) (ha_WC : V0 wc = some (.inl (8, 21, .inl WC))) (ha_SQ : V0 sq = some (.inl (1, 21, .inr (.inl SQ)))) (ha_RC : V0 rc = some (.inl (37, 21, .inl RC))) (ha_BC : V0 bc = some (.inl (38, 21, .inl BC))) (hp0 : 0 ≤ g.toInt) (hp1 : g.toInt ≤ 3) (hp2 : R.toInt = jRg g.toInt) (hp3 : sd.toInt = 2 * jRg g.toInt + 1) (hp4 : (ln : Int) = jLg g.toInt) (hp5 : 1 ≤ x1.toInt) (hp6 : x1.toInt ≤ jRg g.toInt) (hp7 : tg.toInt = ((jTT g.toInt (x1.toInt.toNat - 1) jL0 : Nat) : Int)) (hp8 : tg.toInt ≤ 600000) (hp9 : sp.toInt = 0) (hp10 : jtk g.toInt TK []) (hp11 : WC x1.toInt.toNat = 0) (hp12 : SQ x1.toInt.toNat = 0) (hp13 : RC x1.toInt.toNat = 0) (hp14 : BC x1.toInt.toNat = 0) : jTot tS mX4_countLevel d [.ref a0, .int x1] V0 0 0 (fun r V => (jPost [.inr 2, .inl 1, .inl 2, .inl 8, .inl 37, .inl 38] V0 rV) r V ∧ (∃ (TK2 WC2 : Nat → Int32) (SQ2 : Nat → Int64) (RC2 BC2 : Nat → Int32) (sp2 cd2 tg2 : Int32), V tk = some (.inl (2, ln, .inl TK2)) ∧ V wc = some (.inl (8, 21, .inl WC2)) ∧ V sq = some (.inl (1, 21, .inr (.inl SQ2))) ∧ V rc = some (.inl (37, 21, .inl RC2)) ∧ V bc = some (.inl (38, 21, .inl BC2)) ∧ jfI V a0 2 13 sp2 ∧ jfI V a0 2 11 cd2 ∧ jfI V a0 2 12 tg2 ∧ jtk g.toInt TK2 [] ∧ jot WC2 SQ2 RC2 BC2 WC SQ RC BC x1.toInt.toNat ∧ 0 ≤ (WC2 x1.toInt.toNat).toInt ∧ ((sp2.toInt = 0 ∧ jTT g.toInt x1.toInt.toNat jL0 ≤ 600000 ∧ cd2.toInt = (x1.toInt.toNat : Int) ∧ tg2.toInt = ((jTT g.toInt x1.toInt.toNat jL0 : Nat) : Int) ∧ jac WC2 SQ2 RC2 BC2 x1.toInt.toNat = jwn g.toInt x1.toInt.toNat) ∨ (sp2.toInt = 1 ∧ 600000 < jTT g.toInt x1.toInt.toNat jL0 ∧ cd2.toInt = cd.toInt ∧ tg2.toInt = tg.toInt))) ∧ jfp [a0, tk, wc, sq, rc, bc] V0 V ∧ (∃ g2 : Int32, jfI V a0 2 0 g2 ∧ (g2.toInt = g.toInt)) ∧ (∃ R2 : Int32, jfI V a0 2 1 R2 ∧ (R2.toInt = R.toInt)) ∧ (∃ sd2 : Int32, jfI V a0 2 2 sd2 ∧ (sd2.toInt = sd.toInt))) := by
  refine jTot.of_J [some (.ref a0), some (.int x1), none] moX4_countLevel (Nat.le_of_ble_eq_true rfl) rfl ?_
  have he : jeff [.inr 2, .inl 1, .inl 2, .inl 8, .inl 37, .inl 38] V0 V0 := jeff.refl _ _
  have hfp : jfp [a0, tk, wc, sq, rc, bc] V0 V0 := jfp.rf
  obtain ⟨fs_a0, hO_a0, hK_a0⟩ := WT_obj hW id ha0
  have hF_g := hf_g.get hO_a0
  have hrg : (-2147483648) ≤ g.toInt ∧ g.toInt ≤ 2147483647 := jok_rngI hK_a0 rfl hF_g
  have hF_R := hf_R.get hO_a0
  have hrR : 0 ≤ R.toInt ∧ R.toInt ≤ 20 := jok_rngI hK_a0 rfl hF_R
  have hF_sd := hf_sd.get hO_a0
  have hrsd : (-2147483648) ≤ sd.toInt ∧ sd.toInt ≤ 2147483647 := jok_rngI hK_a0 rfl hF_sd
  have hF_cd := hf_cd.get hO_a0
  have hrcd : 0 ≤ cd.toInt ∧ cd.toInt ≤ 20 := jok_rngI hK_a0 rfl hF_cd
  have hF_tg := hf_tg.get hO_a0
  have hrtg : (-2147483648) ≤ tg.toInt ∧ tg.toInt ≤ 2147483647 := jok_rngI hK_a0 rfl hF_tg
  have hF_sp := hf_sp.get hO_a0
  have hrsp : 0 ≤ sp.toInt ∧ sp.toInt ≤ 1 := jok_rngI hK_a0 rfl hF_sp
  have hF_tk := hr_tk.get hO_a0
  obtain ⟨w_tk, hFq_tk, b_tk, hbq_tk, hb_tk⟩ := hK_a0.2 3 (.inr (some (.inl 2))) rfl
  cases hF_tk.symm.trans (hFq_tk.trans (congrArg some hbq_tk))
  have hF_wc := hr_wc.get hO_a0
  obtain ⟨w_wc, hFq_wc, b_wc, hbq_wc, hb_wc⟩ := hK_a0.2 4 (.inr (some (.inl 8))) rfl
  cases hF_wc.symm.trans (hFq_wc.trans (congrArg some hbq_wc))
  have hF_sq := hr_sq.get hO_a0
  obtain ⟨w_sq, hFq_sq, b_sq, hbq_sq, hb_sq⟩ := hK_a0.2 5 (.inr (some (.inl 1))) rfl
  cases hF_sq.symm.trans (hFq_sq.trans (congrArg some hbq_sq))
  have hF_rc := hr_rc.get hO_a0
  obtain ⟨w_rc, hFq_rc, b_rc, hbq_rc, hb_rc⟩ := hK_a0.2 6 (.inr (some (.inl 37))) rfl
  cases hF_rc.symm.trans (hFq_rc.trans (congrArg some hbq_rc))
  have hF_bc := hr_bc.get hO_a0
  obtain ⟨w_bc, hFq_bc, b_bc, hbq_bc, hb_bc⟩ := hK_a0.2 7 (.inr (some (.inl 38))) rfl
  cases hF_bc.symm.trans (hFq_bc.trans (congrArg some hbq_bc))
  obtain ⟨hN_TK, hv_TK⟩ := WT_rngI (r := (0, 1)) hW id rfl ha_TK
  clear hN_TK
  obtain ⟨hN_WC, hv_WC⟩ := WT_rngI (r := ((-2147483648), 2147483647)) hW id rfl ha_WC
  clear hN_WC
  obtain ⟨hN_RC, hv_RC⟩ := WT_rngI (r := ((-2147483648), 2147483647)) hW id rfl ha_RC
  clear hN_RC
  obtain ⟨hN_BC, hv_BC⟩ := WT_rngI (r := ((-2147483648), 2147483647)) hW id rfl ha_BC
  clear hN_BC
  have hjR := jRg_cases g.toInt
  have hcb : 0 ≤ jcell g.toInt (0, 0, 0) ∧ jcell g.toInt (0, 0, 0) < jLg g.toInt := jcell_b jin.zero
  have hw0 : (WC x1.toInt.toNat).toInt = 0 := by rw [hp11]; rfl
  refine J_aload_n dX4_countLevel_0 rfl ?_
  refine J_iload_n dX4_countLevel_1 rfl ?_
  refine Jz_putI hO_a0 hW id rfl jf_X4_31 jt_X4_10 jEq.rf dX4_countLevel_2 (by omega) (by omega) (fun _ _ => ⟨rfl, rfl⟩) (fun V2 fs2 hW hx2 hO2 hS2 hT2 hB2 => ?_)
  have hK2 : jokO _ (jFs 2) fs2 := hW _ _ id hO2
  have hF2_0 := (hT2 0 (by decide)).trans hF_g
  have hF2_1 := (hT2 1 (by decide)).trans hF_R
  have hF2_2 := (hT2 2 (by decide)).trans hF_sd
  have hF2_11 := (hT2 11 (by decide)).trans hF_cd
  have hF2_12 := (hT2 12 (by decide)).trans hF_tg
  have hF2_13 := (hT2 13 (by decide)).trans hF_sp
  have hF2_3 := (hT2 3 (by decide)).trans hF_tk
  have hF2_4 := (hT2 4 (by decide)).trans hF_wc
  have hF2_5 := (hT2 5 (by decide)).trans hF_sq
  have hF2_6 := (hT2 6 (by decide)).trans hF_rc
  have hF2_7 := (hT2 7 (by decide)).trans hF_bc
  have he := he.trans (hx2.sub (jsub_of rfl))
  have hfp := hfp.trans (jfp.one hB2 List.mem_cons_self)
  have ha0 := ha0.mono hx2.1
  have hb_tk := hb_tk.mono hx2.1
  have hb_wc := hb_wc.mono hx2.1
  have hb_sq := hb_sq.mono hx2.1
  have hb_rc := hb_rc.mono hx2.1
  have hb_bc := hb_bc.mono hx2.1
  have ha_TK := hx2.2 _ _ ha_TK (jnot_of rfl)
  have ha_WC := hx2.2 _ _ ha_WC (jnot_of rfl)
  have ha_SQ := hx2.2 _ _ ha_SQ (jnot_of rfl)
  have ha_RC := hx2.2 _ _ ha_RC (jnot_of rfl)
  have ha_BC := hx2.2 _ _ ha_BC (jnot_of rfl)
  refine J_aload_n dX4_countLevel_5 rfl ?_
  refine Jz_iconst 0 dX4_countLevel_6 (by decide) (fun y6 he6 => ?_)
  refine Jz_iconst 0 dX4_countLevel_7 (by decide) (fun y7 he7 => ?_)
  refine Jz_iconst 0 dX4_countLevel_8 (by decide) (fun y8 he8 => ?_)
  refine Jw_callV3 (q9 := (RX4, TX4, 14)) moX4_cellOf jw_ml_X4_62 jw_im_X4_cellOf jw_se_X4_cellOf ha0 rfl rfl dX4_countLevel_9 (w_X4_cellOf_z (d - 1) _ a0 y6 y7 y8 g R sd (by omega) hW  ha0 ⟨_, hO2, hF2_0⟩ ⟨_, hO2, hF2_1⟩ ⟨_, hO2, hF2_2⟩ (by omega) (by omega) (by omega) (by omega) (by (try simp only [he6.eq, true_and, and_true]) <;> omega) (by (try simp only [he6.eq, true_and, and_true]) <;> omega) (by (try simp only [he7.eq, true_and, and_true]) <;> omega) (by (try simp only [he7.eq, true_and, and_true]) <;> omega) (by (try simp only [he8.eq, true_and, and_true]) <;> omega) (by (try simp only [he8.eq, true_and, and_true]) <;> omega)) (by omega) (Nat.zero_le _) (Nat.zero_le _) (Nat.le_of_ble_eq_true rfl) (fun r9 V9 h9 => ?_)
  obtain ⟨⟨y9, rfl, hl9, hh9, hP9_0⟩, hE9⟩ := h9
  have hE9 := hE9.symm
  subst hE9
  clear hl9 hh9
  try simp only [he6.eq, he7.eq, he8.eq] at hP9_0
  have hz9 : jEq y9.toInt (jcell (g.toInt) ((0), (0), (0))) := hP9_0
  clear hP9_0
  refine J_istore_n dX4_countLevel_12 rfl (by decide) ?_
  refine J_aload_n dX4_countLevel_13 rfl ?_
  refine J_iload_n dX4_countLevel_14 rfl ?_
  refine Jz_iconst 1 dX4_countLevel_15 (by decide) (fun y15 he15 => ?_)
  refine Jw_callV2 (q9 := (RX4, TX4, 14)) moX4_setTaken jw_ml_X4_66 jw_im_X4_setTaken jw_se_X4_setTaken ha0 rfl rfl dX4_countLevel_16 (w_X4_setTaken_z (d - 1) _ a0 y9 y15 tk TK (by omega) hW  ha0 (by (try simp only [he15.eq, true_and, and_true]) <;> omega) (by (try simp only [he15.eq, true_and, and_true]) <;> omega) ⟨_, hO2, hF2_3⟩ ha_TK (by rw [hz9.eq]; omega) (by rw [hz9.eq]; omega) (by omega)) (by omega) (Nat.zero_le _) (Nat.zero_le _) (Nat.le_of_ble_eq_true rfl) (fun r16 V16 h16 => ?_)
  obtain ⟨h16, hX16_0, hX16_1⟩ := h16
  obtain ⟨hW, hx16, hr16⟩ := h16
  have he := he.trans (hx16.sub (jsub_of rfl))
  have hfp := hfp.trans (hX16_1.sub (fun b hb => by simp only [List.mem_cons, List.not_mem_nil, or_false] at hb ⊢; first | (rcases hb with h9 <;> simp only [h9, true_or, or_true]) | omega))
  have ha0 := ha0.mono hx16.1
  have hb_tk := hb_tk.mono hx16.1
  have hb_wc := hb_wc.mono hx16.1
  have hb_sq := hb_sq.mono hx16.1
  have hb_rc := hb_rc.mono hx16.1
  have hb_bc := hb_bc.mono hx16.1
  have hO2 := hx16.2 _ _ hO2 (jnot_of rfl)
  have hK2 := hK2.mono hx16.1
  have ha_WC := hx16.2 _ _ ha_WC (jnot_of rfl)
  have ha_SQ := hx16.2 _ _ ha_SQ (jnot_of rfl)
  have ha_RC := hx16.2 _ _ ha_RC (jnot_of rfl)
  have ha_BC := hx16.2 _ _ ha_BC (jnot_of rfl)
  cases hr16
  obtain ⟨TK16, hTa16, hTn16, hTo16⟩ := hX16_0
  simp only [hz9.eq] at hTn16 hTo16
  have htk16 : jtk g.toInt TK16 [(0, 0, 0)] := hp10.set jin.zero (by rw [hTn16, he15.eq]; decide) hTo16
  obtain ⟨hN_TK16, hv_TK16⟩ := WT_rngI (r := (0, 1)) hW id rfl hTa16
  clear hN_TK16
  refine J_aload_n dX4_countLevel_19 rfl ?_
  refine Jz_iconst 0 dX4_countLevel_20 (by decide) (fun y20 he20 => ?_)
  refine Jz_iconst 0 dX4_countLevel_21 (by decide) (fun y21 he21 => ?_)
  refine Jz_iconst 0 dX4_countLevel_22 (by decide) (fun y22 he22 => ?_)
  refine Jz_iconst 0 dX4_countLevel_23 (by decide) (fun y23 he23 => ?_)
  refine Jz_iconst 0 dX4_countLevel_24 (by decide) (fun y24 he24 => ?_)
  refine J_callS6 moX4_extend jw_ml_X4_70 jw_st_X4_extend dX4_countLevel_25 (w_X4_extend_z 22 (d - 1) _ a0 y20 y21 y22 y23 y24 g R sd x1 cd tg sp tk wc sq rc bc ln [(0, 0, 0)] TK16 WC SQ RC BC (by omega) hW ha0 (by (try simp only [he20.eq, true_and, and_true]) <;> omega) (by (try simp only [he20.eq, true_and, and_true]) <;> omega) ⟨_, hO2, hF2_0⟩ ⟨_, hO2, hF2_1⟩ ⟨_, hO2, hF2_2⟩ ⟨_, hO2, hS2⟩ ⟨_, hO2, hF2_11⟩ ⟨_, hO2, hF2_12⟩ ⟨_, hO2, hF2_13⟩ ⟨_, hO2, hF2_3⟩ ⟨_, hO2, hF2_4⟩ ⟨_, hO2, hF2_5⟩ ⟨_, hO2, hF2_6⟩ ⟨_, hO2, hF2_7⟩ hTa16 ha_WC ha_SQ ha_RC ha_BC (by omega) (by omega) (by omega) (by omega) (by omega) (by rw [he20.eq]; omega) (by omega) (by omega) (by omega) (by omega) (by omega) (by omega) (by rw [he20.eq]; rfl) (by rw [he21.eq, he22.eq, he23.eq]; rfl) (by rw [he20.eq]; exact jnr.one) htk16 (by rw [he24.eq]; rfl) (by (try simp only [he20.eq, he21.eq, he22.eq, he23.eq, he24.eq, true_and, and_true]) <;> omega)) (by omega) (Nat.zero_le _) (Nat.zero_le _) (Nat.le_of_ble_eq_true rfl) (fun r25 V25 h25 => ?_)
  obtain ⟨h25, hX25_0, hX25_1, ⟨fv25_0, hfv25_0, hfp25_0⟩, ⟨fv25_1, hfv25_1, hfp25_1⟩, ⟨fv25_2, hfv25_2, hfp25_2⟩, ⟨fv25_3, hfv25_3, hfp25_3⟩, ⟨fv25_4, hfv25_4, hfp25_4⟩, ⟨fv25_5, hfv25_5, hfp25_5⟩⟩ := h25
  obtain ⟨hW, hx25, hr25⟩ := h25
  have he := he.trans (hx25.sub (jsub_of rfl))
  have hfp := hfp.trans (hX25_1.sub (fun b hb => by simp only [List.mem_cons, List.not_mem_nil, or_false] at hb ⊢; first | (rcases hb with h9 | h9 | h9 | h9 | h9 | h9 <;> simp only [h9, true_or, or_true]) | omega))
  have ha0 := ha0.mono hx25.1
  have hb_tk := hb_tk.mono hx25.1
  have hb_wc := hb_wc.mono hx25.1
  have hb_sq := hb_sq.mono hx25.1
  have hb_rc := hb_rc.mono hx25.1
  have hb_bc := hb_bc.mono hx25.1
  obtain ⟨fs25a0, hOfs25a0, hRfs25a0⟩ := hx25.1.keep hO2
  have hKfs25a0 : jokO _ (jFs 2) fs25a0 := hW _ _ id hOfs25a0
  have hFfs25a0_3 := hRfs25a0 _ _ hF2_3
  have hFfs25a0_4 := hRfs25a0 _ _ hF2_4
  have hFfs25a0_5 := hRfs25a0 _ _ hF2_5
  have hFfs25a0_6 := hRfs25a0 _ _ hF2_6
  have hFfs25a0_7 := hRfs25a0 _ _ hF2_7
  cases hr25
  have hFv25_0 := hfv25_0.get hOfs25a0
  try simp only [he20.eq, he21.eq, he22.eq, he23.eq, he24.eq] at hfp25_0
  have hsb25_0 : g = fv25_0 := (jI_inj.mp hfp25_0).symm
  subst hsb25_0
  have hFv25_1 := hfv25_1.get hOfs25a0
  try simp only [he20.eq, he21.eq, he22.eq, he23.eq, he24.eq] at hfp25_1
  have hsb25_1 : R = fv25_1 := (jI_inj.mp hfp25_1).symm
  subst hsb25_1
  have hFv25_2 := hfv25_2.get hOfs25a0
  try simp only [he20.eq, he21.eq, he22.eq, he23.eq, he24.eq] at hfp25_2
  have hsb25_2 : sd = fv25_2 := (jI_inj.mp hfp25_2).symm
  subst hsb25_2
  have hFv25_3 := hfv25_3.get hOfs25a0
  try simp only [he20.eq, he21.eq, he22.eq, he23.eq, he24.eq] at hfp25_3
  have hsb25_3 : x1 = fv25_3 := (jI_inj.mp hfp25_3).symm
  subst hsb25_3
  have hFv25_4 := hfv25_4.get hOfs25a0
  try simp only [he20.eq, he21.eq, he22.eq, he23.eq, he24.eq] at hfp25_4
  have hsb25_4 : cd = fv25_4 := (jI_inj.mp hfp25_4).symm
  subst hsb25_4
  have hFv25_5 := hfv25_5.get hOfs25a0
  try simp only [he20.eq, he21.eq, he22.eq, he23.eq, he24.eq] at hfp25_5
  have hsb25_5 : tg = fv25_5 := (jI_inj.mp hfp25_5).symm
  subst hsb25_5
  obtain ⟨TK25, WC25, SQ25, RC25, BC25, sp25, hTa25, hWa25, hSa25, hRa25, hBa25, hspf25, htk25, hea, hew0, hew1, hes, heo⟩ := hX25_0
  rw [he20.eq, show (x1.toInt - 0).toNat = x1.toInt.toNat by omega, show jac WC SQ RC BC x1.toInt.toNat = jZ4 by unfold jac; rw [hp11, hp12, hp13, hp14]; rfl] at hea
  obtain ⟨hd0, hd1⟩ := jcl_done (g := g.toInt) (tg := tg.toInt) (n := x1.toInt.toNat) (by omega) hp7 hp8 hea
  have hwn : (((WC25 x1.toInt.toNat).toInt.toNat : Nat) : Int) = (WC25 x1.toInt.toNat).toInt := Int.toNat_of_nonneg hew0
  dsimp only at hd0 hd1
  rw [hwn] at hd0 hd1
  have hFv2513 := hspf25.get hOfs25a0
  obtain ⟨hN_TK25, hv_TK25⟩ := WT_rngI (r := (0, 1)) hW id rfl hTa25
  clear hN_TK25
  obtain ⟨hN_WC25, hv_WC25⟩ := WT_rngI (r := ((-2147483648), 2147483647)) hW id rfl hWa25
  clear hN_WC25
  obtain ⟨hN_RC25, hv_RC25⟩ := WT_rngI (r := ((-2147483648), 2147483647)) hW id rfl hRa25
  clear hN_RC25
  obtain ⟨hN_BC25, hv_BC25⟩ := WT_rngI (r := ((-2147483648), 2147483647)) hW id rfl hBa25
  clear hN_BC25
  refine J_aload_n dX4_countLevel_28 rfl ?_
  refine J_iload_n dX4_countLevel_29 rfl ?_
  refine Jz_iconst 0 dX4_countLevel_30 (by decide) (fun y30 he30 => ?_)
  refine Jw_callV2 (q9 := (RX4, TX4, 14)) moX4_setTaken jw_ml_X4_66 jw_im_X4_setTaken jw_se_X4_setTaken ha0 rfl rfl dX4_countLevel_31 (w_X4_setTaken_z (d - 1) _ a0 y9 y30 tk TK25 (by omega) hW  ha0 (by (try simp only [he30.eq, true_and, and_true]) <;> omega) (by (try simp only [he30.eq, true_and, and_true]) <;> omega) ⟨_, hOfs25a0, hFfs25a0_3⟩ hTa25 (by rw [hz9.eq]; omega) (by rw [hz9.eq]; omega) (by omega)) (by omega) (Nat.zero_le _) (Nat.zero_le _) (Nat.le_of_ble_eq_true rfl) (fun r31 V31 h31 => ?_)
  obtain ⟨h31, hX31_0, hX31_1⟩ := h31
  obtain ⟨hW, hx31, hr31⟩ := h31
  have he := he.trans (hx31.sub (jsub_of rfl))
  have hfp := hfp.trans (hX31_1.sub (fun b hb => by simp only [List.mem_cons, List.not_mem_nil, or_false] at hb ⊢; first | (rcases hb with h9 <;> simp only [h9, true_or, or_true]) | omega))
  have ha0 := ha0.mono hx31.1
  have hb_tk := hb_tk.mono hx31.1
  have hb_wc := hb_wc.mono hx31.1
  have hb_sq := hb_sq.mono hx31.1
  have hb_rc := hb_rc.mono hx31.1
  have hb_bc := hb_bc.mono hx31.1
  have hOfs25a0 := hx31.2 _ _ hOfs25a0 (jnot_of rfl)
  have hKfs25a0 := hKfs25a0.mono hx31.1
  have hWa25 := hx31.2 _ _ hWa25 (jnot_of rfl)
  have hSa25 := hx31.2 _ _ hSa25 (jnot_of rfl)
  have hRa25 := hx31.2 _ _ hRa25 (jnot_of rfl)
  have hBa25 := hx31.2 _ _ hBa25 (jnot_of rfl)
  cases hr31
  obtain ⟨TK31, hTa31, hTn31, hTo31⟩ := hX31_0
  simp only [hz9.eq] at hTn31 hTo31
  have htk31 : jtk g.toInt TK31 [] := htk25.clr List.not_mem_nil jin.zero (by rw [hTn31, he30.eq]) hTo31
  obtain ⟨hN_TK31, hv_TK31⟩ := WT_rngI (r := (0, 1)) hW id rfl hTa31
  clear hN_TK31
  refine J_aload_n dX4_countLevel_34 rfl ?_
  refine J_get jf_X4_41 dX4_countLevel_35 hOfs25a0 hFv2513 ?_
  refine Jz_if_ne (tgt := 63) jEq.rf dX4_countLevel_38 (by decide) (fun c38 => ?_) (fun c38 => ?_)
  · exact J_ret (r := none) dX4_countLevel_63 ⟨rfl, rfl⟩ (⟨⟨hW, he, rfl⟩, ⟨TK31, WC25, SQ25, RC25, BC25, sp25, cd, tg, hTa31, hWa25, hSa25, hRa25, hBa25, ⟨_, hOfs25a0, hFv2513⟩, ⟨_, hOfs25a0, hFv25_4⟩, ⟨_, hOfs25a0, hFv25_5⟩, htk31, heo, hew0, (by first | exact Or.inr ⟨by omega, hd1 (by omega), rfl, rfl⟩ | exact Or.inl ⟨by omega, (hd0 (by omega)).1, by omega, by rw [he59.eq]; exact (hd0 (by omega)).2.1, (hd0 (by omega)).2.2⟩)⟩, hfp, ⟨_, ⟨_, hOfs25a0, hFv25_0⟩, (by omega)⟩, ⟨_, ⟨_, hOfs25a0, hFv25_1⟩, (by omega)⟩, ⟨_, ⟨_, hOfs25a0, hFv25_2⟩, (by omega)⟩⟩)
  · refine J_aload_n dX4_countLevel_41 rfl ?_
    refine J_iload_n dX4_countLevel_42 rfl ?_
    refine Jz_putI hOfs25a0 hW id rfl jf_X4_35 jt_X4_11 jEq.rf dX4_countLevel_43 (by omega) (by omega) (fun _ _ => ⟨rfl, rfl⟩) (fun V43 fs43 hW hx43 hO43 hS43 hT43 hB43 => ?_)
    have hK43 : jokO _ (jFs 2) fs43 := hW _ _ id hO43
    have hF43_3 := (hT43 3 (by decide)).trans hFfs25a0_3
    have hF43_4 := (hT43 4 (by decide)).trans hFfs25a0_4
    have hF43_5 := (hT43 5 (by decide)).trans hFfs25a0_5
    have hF43_6 := (hT43 6 (by decide)).trans hFfs25a0_6
    have hF43_7 := (hT43 7 (by decide)).trans hFfs25a0_7
    have hF43_0 := (hT43 0 (by decide)).trans hFv25_0
    have hF43_1 := (hT43 1 (by decide)).trans hFv25_1
    have hF43_2 := (hT43 2 (by decide)).trans hFv25_2
    have hF43_10 := (hT43 10 (by decide)).trans hFv25_3
    have hF43_12 := (hT43 12 (by decide)).trans hFv25_5
    have hF43_13 := (hT43 13 (by decide)).trans hFv2513
    have he := he.trans (hx43.sub (jsub_of rfl))
    have hfp := hfp.trans (jfp.one hB43 List.mem_cons_self)
    have ha0 := ha0.mono hx43.1
    have hb_tk := hb_tk.mono hx43.1
    have hb_wc := hb_wc.mono hx43.1
    have hb_sq := hb_sq.mono hx43.1
    have hb_rc := hb_rc.mono hx43.1
    have hb_bc := hb_bc.mono hx43.1
    have hWa25 := hx43.2 _ _ hWa25 (jnot_of rfl)
    have hSa25 := hx43.2 _ _ hSa25 (jnot_of rfl)
    have hRa25 := hx43.2 _ _ hRa25 (jnot_of rfl)
    have hBa25 := hx43.2 _ _ hBa25 (jnot_of rfl)
    have hTa31 := hx43.2 _ _ hTa31 (jnot_of rfl)
    refine J_aload_n dX4_countLevel_46 rfl ?_
    refine J_dup dX4_countLevel_47 rfl ?_
    refine J_get jf_X4_38 dX4_countLevel_48 hO43 hF43_12 ?_
    refine J_aload_n dX4_countLevel_51 rfl ?_
    refine J_get jf_X4_9 dX4_countLevel_52 hO43 hF43_4 ?_
    refine J_iload_n dX4_countLevel_55 rfl ?_
    refine J_callSN2 moX6_cell (host := "WalkGrounds") (List.mem_of_getElem? (i := 4) rfl) jw_st_X6_cell dX4_countLevel_56 (w_X6_cell_x (d - 1) _ wc x1 hWa25 (WT_rngI (r := (-2147483648, 2147483647)) hW id rfl hWa25).1 rfl (by omega) (by omega)) (by omega) (Nat.zero_le _) (Nat.zero_le _) (Nat.le_of_ble_eq_true rfl) (fun r56 V56 h56 => ?_)
    obtain ⟨⟨y56, rfl, hf56⟩, hE56⟩ := h56
    have hE56 := hE56.symm
    subst hE56
    have hz56 : jEq y56.toInt (WC25 (x1.toInt).toNat).toInt := by rw [← hf56]; rfl
    clear hf56
    · refine Jz_iadd jEq.rf hz56 dX4_countLevel_59 (by omega) (by omega) (fun y59 he59 => ?_)
      refine Jz_putI hO43 hW id rfl jf_X4_38 jt_X4_12 he59 dX4_countLevel_60 (by omega) (by omega) (fun _ _ => ⟨rfl, rfl⟩) (fun V60 fs60 hW hx60 hO60 hS60 hT60 hB60 => ?_)
      have hK60 : jokO _ (jFs 2) fs60 := hW _ _ id hO60
      have hF60_11 := (hT60 11 (by decide)).trans hS43
      have hF60_3 := (hT60 3 (by decide)).trans hF43_3
      have hF60_4 := (hT60 4 (by decide)).trans hF43_4
      have hF60_5 := (hT60 5 (by decide)).trans hF43_5
      have hF60_6 := (hT60 6 (by decide)).trans hF43_6
      have hF60_7 := (hT60 7 (by decide)).trans hF43_7
      have hF60_0 := (hT60 0 (by decide)).trans hF43_0
      have hF60_1 := (hT60 1 (by decide)).trans hF43_1
      have hF60_2 := (hT60 2 (by decide)).trans hF43_2
      have hF60_10 := (hT60 10 (by decide)).trans hF43_10
      have hF60_13 := (hT60 13 (by decide)).trans hF43_13
      have he := he.trans (hx60.sub (jsub_of rfl))
      have hfp := hfp.trans (jfp.one hB60 List.mem_cons_self)
      have ha0 := ha0.mono hx60.1
      have hb_tk := hb_tk.mono hx60.1
      have hb_wc := hb_wc.mono hx60.1
      have hb_sq := hb_sq.mono hx60.1
      have hb_rc := hb_rc.mono hx60.1
      have hb_bc := hb_bc.mono hx60.1
      have hWa25 := hx60.2 _ _ hWa25 (jnot_of rfl)
      have hSa25 := hx60.2 _ _ hSa25 (jnot_of rfl)
      have hRa25 := hx60.2 _ _ hRa25 (jnot_of rfl)
      have hBa25 := hx60.2 _ _ hBa25 (jnot_of rfl)
      have hTa31 := hx60.2 _ _ hTa31 (jnot_of rfl)
      exact J_ret (r := none) dX4_countLevel_63 ⟨rfl, rfl⟩ (⟨⟨hW, he, rfl⟩, ⟨TK31, WC25, SQ25, RC25, BC25, sp25, x1, y59, hTa31, hWa25, hSa25, hRa25, hBa25, ⟨_, hO60, hF60_13⟩, ⟨_, hO60, hF60_11⟩, ⟨_, hO60, hS60⟩, htk31, heo, hew0, (by first | exact Or.inr ⟨by omega, hd1 (by omega), rfl, rfl⟩ | exact Or.inl ⟨by omega, (hd0 (by omega)).1, by omega, by rw [he59.eq]; exact (hd0 (by omega)).2.1, (hd0 (by omega)).2.2⟩)⟩, hfp, ⟨_, ⟨_, hO60, hF60_0⟩, (by omega)⟩, ⟨_, ⟨_, hO60, hF60_1⟩, (by omega)⟩, ⟨_, ⟨_, hO60, hF60_2⟩, (by omega)⟩⟩)
set_option maxRecDepth 100000 in
set_option maxHeartbeats 8000000 in
theorem w_X7_spot_z {tS : jTS} (d : Nat) (V0 : jH) (x0 : Int32) (x1 : Int32) (x2 : Int32) (hd : 0 ≤ d)  (hp0 : -21 ≤ x0.toInt) (hp1 : x0.toInt ≤ 21) (hp2 : -21 ≤ x1.toInt) (hp3 : x1.toInt ≤ 21) (hp4 : -21 ≤ x2.toInt) (hp5 : x2.toInt ≤ 21) : jTot tS mX7_spot d [.int x0, .int x1, .int x2] V0 0 0 (fun r V => (fun r _ => ∃ y : Int32, r = some (.int y) ∧ ((-2147483648) ≤ y.toInt) ∧ (y.toInt ≤ 2147483647) ∧ (y.toInt = jspot (x0.toInt, x1.toInt, x2.toInt))) r V ∧ V = V0) := by
  refine jTot.of_J [some (.int x0), some (.int x1), some (.int x2)] moX7_spot (Nat.le_of_ble_eq_true rfl) rfl ?_
  have hrx0 := j_rng x0
  have hrx1 := j_rng x1
  have hrx2 := j_rng x2
  refine J_iload_n dX7_spot_0 rfl ?_
  refine Jz_bipush 21 dX7_spot_1 (by decide) (fun y1 he1 => ?_)
  refine Jz_iadd jEq.rf he1 dX7_spot_3 (by omega) (by omega) (fun y3 he3 => ?_)
  refine Jz_bipush 43 dX7_spot_4 (by decide) (fun y4 he4 => ?_)
  refine J_iload_n dX7_spot_6 rfl ?_
  refine Jz_bipush 21 dX7_spot_7 (by decide) (fun y7 he7 => ?_)
  refine Jz_iadd jEq.rf he7 dX7_spot_9 (by omega) (by omega) (fun y9 he9 => ?_)
  refine Jz_imul he4 he9 dX7_spot_10 (by omega) (by omega) (fun y10 he10 => ?_)
  refine Jz_iadd he3 he10 dX7_spot_11 (by omega) (by omega) (fun y11 he11 => ?_)
  refine Jz_sipush 1849 dX7_spot_12 (by decide) (fun y12 he12 => ?_)
  refine J_iload_n dX7_spot_15 rfl ?_
  refine Jz_bipush 21 dX7_spot_16 (by decide) (fun y16 he16 => ?_)
  refine Jz_iadd jEq.rf he16 dX7_spot_18 (by omega) (by omega) (fun y18 he18 => ?_)
  refine Jz_imul he12 he18 dX7_spot_19 (by omega) (by omega) (fun y19 he19 => ?_)
  refine Jz_iadd he11 he19 dX7_spot_20 (by omega) (by omega) (fun y20 he20 => ?_)
  exact J_ret (r := some (.int _)) dX7_spot_21 ⟨rfl, _, rfl, rfl⟩ (⟨⟨_, rfl, (j_rng _).1, (j_rng _).2, (by rw [he20.eq]; show _ = x0.toInt + 21 + 43 * (x1.toInt + 21) + 1849 * (x2.toInt + 21); omega)⟩, rfl⟩)
set_option maxRecDepth 100000 in
set_option maxHeartbeats 8000000 in
theorem w_X7_forgets_z {tS : jTS} (d : Nat) (V0 : jH) (a0 : Nat) (x1 : Int32) (px : Nat) (py : Nat) (pz : Nat) (se : Nat) (PX : Nat → Int32) (PY : Nat → Int32) (PZ : Nat → Int32) (SE : Nat → Int32) (hd : 1 ≤ d) (hW : WT V0) (ha0 : jis V0 (.inr 5) a0) (hr_px : jfR V0 a0 5 6 px) (hr_py : jfR V0 a0 5 7 py) (hr_pz : jfR V0 a0 5 8 pz) (hr_se : jfR V0 a0 5 16 se) (ha_PX : V0 px = some (.inl (18, 121, .inl PX))) (ha_PY : V0 py = some (.inl (19, 121, .inl PY))) (ha_PZ : V0 pz = some (.inl (20, 121, .inl PZ))) (ha_SE : V0 se = some (.inl (41, 79507, .inl SE))) (hp0 : 0 ≤ x1.toInt) (hp1 : x1.toInt ≤ 20) (hp2 : ∀ k : Nat, (k : Int) ≤ x1.toInt → jbx (jPf PX PY PZ k)) (hp3 : jsn SE (jpl3 (jPf PX PY PZ) x1.toInt.toNat)) (hp4 : ∀ i k : Nat, i < k → (k : Int) ≤ x1.toInt → ¬ jPf PX PY PZ k = jPf PX PY PZ i) : jTot tS mX7_forgets d [.ref a0, .int x1] V0 0 0 (fun r V => (jPost [.inl 41] V0 rV) r V ∧ (∃ SE2 : Nat → Int32, V se = some (.inl (41, 79507, .inl SE2)) ∧ jsn SE2 [])) := by
  refine jTot.of_J [some (.ref a0), some (.int x1), none] moX7_forgets (Nat.le_of_ble_eq_true rfl) rfl ?_
  have hrx1 := j_rng x1
  have he : jeff [.inl 41] V0 V0 := jeff.refl _ _
  obtain ⟨fs_a0, hO_a0, hK_a0⟩ := WT_obj hW id ha0
  have hF_px := hr_px.get hO_a0
  obtain ⟨w_px, hFq_px, b_px, hbq_px, hb_px⟩ := hK_a0.2 6 (.inr (some (.inl 18))) rfl
  cases hF_px.symm.trans (hFq_px.trans (congrArg some hbq_px))
  have hF_py := hr_py.get hO_a0
  obtain ⟨w_py, hFq_py, b_py, hbq_py, hb_py⟩ := hK_a0.2 7 (.inr (some (.inl 19))) rfl
  cases hF_py.symm.trans (hFq_py.trans (congrArg some hbq_py))
  have hF_pz := hr_pz.get hO_a0
  obtain ⟨w_pz, hFq_pz, b_pz, hbq_pz, hb_pz⟩ := hK_a0.2 8 (.inr (some (.inl 20))) rfl
  cases hF_pz.symm.trans (hFq_pz.trans (congrArg some hbq_pz))
  have hF_se := hr_se.get hO_a0
  obtain ⟨w_se, hFq_se, b_se, hbq_se, hb_se⟩ := hK_a0.2 16 (.inr (some (.inl 41))) rfl
  cases hF_se.symm.trans (hFq_se.trans (congrArg some hbq_se))
  obtain ⟨hN_PX, hv_PX⟩ := WT_rngI (r := ((-2147483648), 2147483647)) hW id rfl ha_PX
  clear hN_PX
  obtain ⟨hN_PY, hv_PY⟩ := WT_rngI (r := ((-2147483648), 2147483647)) hW id rfl ha_PY
  clear hN_PY
  obtain ⟨hN_PZ, hv_PZ⟩ := WT_rngI (r := ((-2147483648), 2147483647)) hW id rfl ha_PZ
  clear hN_PZ
  obtain ⟨hN_SE, hv_SE⟩ := WT_rngI (r := (0, 1)) hW id rfl ha_SE
  clear hN_SE
  refine Jz_iconst 0 dX7_forgets_0 (by decide) (fun y0 he0 => ?_)
  refine J_istore_n dX7_forgets_1 rfl (by decide) ?_
  have L2 : ∀ (N : Nat) (V : jH) (i2n2 : Int32) (F41n2 : Nat → Int32), WT V → jeff [.inl 41] V0 V → (jis V (.inr 5) a0) → (jis V (.inl 18) px) → (jis V (.inl 19) py) → (jis V (.inl 20) pz) → (jis V (.inl 41) se) → (V a0 = some (.inr (5, fs_a0))) → (jokO V (jFs 5) fs_a0) → (V se = some (.inl (41, 79507, .inl F41n2))) → (V px = some (.inl (18, 121, .inl PX))) → (V py = some (.inl (19, 121, .inl PY))) → (V pz = some (.inl (20, 121, .inl PZ))) → (0 ≤ i2n2.toInt ∧ i2n2.toInt ≤ x1.toInt + 1) → (∀ p, jbx p → ((F41n2 (jspot p).toNat).toInt = 0 ↔ ¬ ∃ i : Nat, i2n2.toInt ≤ (i : Int) ∧ (i : Int) ≤ x1.toInt ∧ p = jPf PX PY PZ i)) → (300 - i2n2.toInt).toNat < N → J tS mX7_forgets d 2 [some (.ref a0), some (.int x1), some (.int i2n2)] [] V 0 0 (fun r V => (jPost [.inl 41] V0 rV) r V ∧ (∃ SE2 : Nat → Int32, V se = some (.inl (41, 79507, .inl SE2)) ∧ jsn SE2 [])) := by
    intro N
    induction N with
    | zero => intro V i2n2 F41n2 hW he ha0 hb_px hb_py hb_pz hb_se hO_a0 hK_a0 hAF41n2 ha_PX ha_PY ha_PZ hi2 hse hm; exact absurd hm (Nat.not_lt_zero _)
    | succ N ih =>
      intro V i2n2 F41n2 hW he ha0 hb_px hb_py hb_pz hb_se hO_a0 hK_a0 hAF41n2 ha_PX ha_PY ha_PZ hi2 hse hm
      have ih2 := ih
      have hri2 := j_rng i2n2
      obtain ⟨hNF41n2, hvF41n2⟩ := WT_rngI (r := (0, 1)) hW id rfl hAF41n2
      clear hNF41n2
      refine J_iload_n dX7_forgets_2 rfl ?_
      refine J_iload_n dX7_forgets_3 rfl ?_
      refine Jz_icmp_gt (tgt := 40) jEq.rf jEq.rf dX7_forgets_4 (by decide) (fun c4 => ?_) (fun c4 => ?_)
      · exact J_ret (r := none) dX7_forgets_40 ⟨rfl, rfl⟩ (⟨⟨hW, he, rfl⟩, ⟨F41n2, hAF41n2, fun p hp => (hse p hp).trans ⟨fun _ => List.not_mem_nil, fun _ ⟨i, h0, h1, h2⟩ => by omega⟩⟩⟩)
      · refine J_aload_n dX7_forgets_7 rfl ?_
        refine J_get jf_X7_55 dX7_forgets_8 hO_a0 hF_se ?_
        refine J_aload_n dX7_forgets_11 rfl ?_
        refine J_get jf_X7_22 dX7_forgets_12 hO_a0 hF_px ?_
        refine J_iload_n dX7_forgets_15 rfl ?_
        refine Jz_iald (r := ((-2147483648), 2147483647)) jEq.rf dX7_forgets_16 ha_PX rfl hv_PX (by omega) (by omega) (fun y16 hf16 hl16 hh16 => ?_)
        dsimp only at hl16 hh16
        clear hl16 hh16
        have e16 : (PX i2n2.toInt.toNat).toInt = y16.toInt := by rw [hf16]
        have hbk := hp2 i2n2.toInt.toNat (by omega)
        refine J_aload_n dX7_forgets_17 rfl ?_
        refine J_get jf_X7_25 dX7_forgets_18 hO_a0 hF_py ?_
        refine J_iload_n dX7_forgets_21 rfl ?_
        refine Jz_iald (r := ((-2147483648), 2147483647)) jEq.rf dX7_forgets_22 ha_PY rfl hv_PY (by omega) (by omega) (fun y22 hf22 hl22 hh22 => ?_)
        dsimp only at hl22 hh22
        clear hl22 hh22
        have e22 : (PY i2n2.toInt.toNat).toInt = y22.toInt := by rw [hf22]
        refine J_aload_n dX7_forgets_23 rfl ?_
        refine J_get jf_X7_28 dX7_forgets_24 hO_a0 hF_pz ?_
        refine J_iload_n dX7_forgets_27 rfl ?_
        refine Jz_iald (r := ((-2147483648), 2147483647)) jEq.rf dX7_forgets_28 ha_PZ rfl hv_PZ (by omega) (by omega) (fun y28 hf28 hl28 hh28 => ?_)
        dsimp only at hl28 hh28
        clear hl28 hh28
        have e28 : (PZ i2n2.toInt.toNat).toInt = y28.toInt := by rw [hf28]
        have hbq := hbk
        unfold jPf jbx at hbq
        dsimp only at hbq
        rw [e16, e22, e28] at hbq
        refine J_callS3 moX7_spot jw_ml_X7_177 jw_st_X7_spot dX7_forgets_29 (w_X7_spot_z (d - 1) _ y16 y22 y28 (by omega)   (by omega) (by omega) (by omega) (by omega) (by omega) (by omega)) (by omega) (Nat.zero_le _) (Nat.zero_le _) (Nat.le_of_ble_eq_true rfl) (fun r29 V29 h29 => ?_)
        obtain ⟨⟨y29, rfl, hl29, hh29, hP29_0⟩, hE29⟩ := h29
        have hE29 := hE29.symm
        subst hE29
        clear hl29 hh29
        have hz29 : jEq y29.toInt (jspot ((y16.toInt), (y22.toInt), (y28.toInt))) := hP29_0
        clear hP29_0
        have hsb := jspot_b (p := (y16.toInt, y22.toInt, y28.toInt)) hbq
        refine Jz_iconst 0 dX7_forgets_32 (by decide) (fun y32 he32 => ?_)
        refine Jz_zast (r := (0, 1)) hz29 he32 hW id dX7_forgets_33 hAF41n2 rfl rfl (by omega) (by omega) (by omega) (by omega) (fun _ h => vp_nar_b (by omega) (by omega)) (fun V33 G33 hW hx33 hA33 hp33 ho33 => ?_)
        obtain ⟨hN33, hv33⟩ := WT_rngI (r := (0, 1)) hW id rfl hA33
        clear hN33
        have he := he.trans (hx33.sub (jsub_of rfl))
        have ha0 := ha0.mono hx33.1
        have hb_px := hb_px.mono hx33.1
        have hb_py := hb_py.mono hx33.1
        have hb_pz := hb_pz.mono hx33.1
        have hb_se := hb_se.mono hx33.1
        have hO_a0 := hx33.2 _ _ hO_a0 (jnot_of rfl)
        have hK_a0 := hK_a0.mono hx33.1
        have ha_PX := hx33.2 _ _ ha_PX (jnot_of rfl)
        have ha_PY := hx33.2 _ _ ha_PY (jnot_of rfl)
        have ha_PZ := hx33.2 _ _ ha_PZ (jnot_of rfl)
        refine Jz_iinc 1 dX7_forgets_34 rfl rfl (by decide) jEq.rf (by decide) (by omega) (by omega) (fun y34 he34 => ?_)
        refine J_goto (tgt := 2) dX7_forgets_37 (by decide) ?_
        refine J.mask [true, true, true] ?_
        exact ih2 _ y34 G33 hW he ha0 hb_px hb_py hb_pz hb_se hO_a0 hK_a0 hA33 ha_PX ha_PY ha_PZ (by (try simp only [he34.eq, true_and, and_true]) <;> omega) (fun p hp => by
    rw [he34.eq]
    by_cases e : p = jPf PX PY PZ i2n2.toInt.toNat
    · subst e
      rw [show (G33 (jspot (jPf PX PY PZ i2n2.toInt.toNat)).toNat).toInt = 0 by (show (G33 (jspot ((PX i2n2.toInt.toNat).toInt, (PY i2n2.toInt.toNat).toInt, (PZ i2n2.toInt.toNat).toInt)).toNat).toInt = 0); rw [e16, e22, e28, hp33, he32.eq]]
      exact ⟨fun _ ⟨i, h0, h1, h2⟩ => hp4 i2n2.toInt.toNat i (by omega) h1 h2.symm, fun _ => rfl⟩
    · rw [ho33 _ (fun z => e (jspot_inj hp hbk (by rw [z]; (show (jspot (y16.toInt, y22.toInt, y28.toInt)).toNat = (jspot ((PX i2n2.toInt.toNat).toInt, (PY i2n2.toInt.toNat).toInt, (PZ i2n2.toInt.toNat).toInt)).toNat); rw [e16, e22, e28]))), hse p hp]
      exact not_congr ⟨fun ⟨i, h0, h1, h2⟩ => ⟨i, by by_cases q : (i : Int) = i2n2.toInt; (exact absurd (h2.trans (by rw [show i = i2n2.toInt.toNat by omega])) e); omega, h1, h2⟩, fun ⟨i, h0, h1, h2⟩ => ⟨i, by omega, h1, h2⟩⟩) (by (try simp only [he34.eq, true_and, and_true]) <;> omega)
  refine J.mask [true, true, true] ?_
  exact L2 _ _ y0 SE hW he ha0 hb_px hb_py hb_pz hb_se hO_a0 hK_a0 ha_SE ha_PX ha_PY ha_PZ (by (try simp only [he0.eq, true_and, and_true]) <;> omega) (fun p hp => (hp3 p hp).trans (not_congr ((jpl3_mem _).trans ⟨fun ⟨i, h1, h2⟩ => ⟨i, by rw [he0.eq]; omega, by omega, h2⟩, fun ⟨i, h0, h1, h2⟩ => ⟨i, by omega, h2⟩⟩))) (Nat.lt_succ_self _)
set_option maxRecDepth 100000 in
set_option maxHeartbeats 8000000 in
theorem w_X7_counts_z_s459 {tS : jTS} (d : Nat) (V0 : jH) (a0 : Nat) (x1 : Int32) (x2 : Int32) (rw : Nat) (px : Nat) (py : Nat) (pz : Nat) (kn : Nat) (co : Nat) (sq : Nat) (rg : Nat) (bg : Nat) (se : Nat) (hx : Nat) (RW : Nat → Int32) (PX : Nat → Int32) (PY : Nat → Int32) (PZ : Nat → Int32) (KN : Nat → Int32) (CO : Nat → Int32) (SQ : Nat → Int64) (RG : Nat → Int32) (BG : Nat → Int32) (SE : Nat → Int32) (HX : Nat → Int32) (Q : Option Value → jH → Prop) (N : Nat) (i4n92 : Int32) (i5n92 : Int32) (gs92a0 : List Value) (F17n92 : Nat → Int32) (F18n92 : Nat → Int32) (F19n92 : Nat → Int32) (F20n92 : Nat → Int32) (F23n92 : Nat → Int32) (F46n92 : Nat → Int64) (F24n92 : Nat → Int32) (F25n92 : Nat → Int32) (F41n92 : Nat → Int32) (F26n92 : Nat → Int32) (y5 : Int32) (y251 : Int32) (y168 : Int32) (y184 : Int32) (y215 : Int32) (y231 : Int32) (y108 : Int32) (y110 : Int32) (y177 : Int32) (y193 : Int32) (y224 : Int32) (t0k360 : Int32) (V360 : jH) (G23 : Nat → Int32) (G111 : Nat → Int32) (G286 : Nat → Int32) (G297 : Nat → Int32) (G308 : Nat → Int32) (G360 : Nat → Int32) (hQ : ∀ (r : Option Value) (V : jH), (fun r V => (jPost [.inr 5, .inl 40, .inl 23, .inl 17, .inl 18, .inl 19, .inl 20, .inl 41, .inl 26, .inl 46, .inl 24, .inl 25] V0 rV) r V ∧ (∃ (KN2 CO2 : Nat → Int32) (SQ2 : Nat → Int64) (RG2 BG2 SE2 : Nat → Int32), V kn = some (.inl (40, 84, .inl KN2)) ∧ V co = some (.inl (23, 84, .inl CO2)) ∧ V sq = some (.inl (46, 84, .inr (.inl SQ2))) ∧ V rg = some (.inl (24, 84, .inl RG2)) ∧ V bg = some (.inl (25, 84, .inl BG2)) ∧ V se = some (.inl (41, 79507, .inl SE2)) ∧ jsn SE2 [] ∧ (KN2 (21 * x1.toInt + x2.toInt).toNat).toInt = 1 ∧ jmk x1.toInt x2.toInt.toNat CO2 SQ2 RG2 BG2 (21 * x1.toInt + x2.toInt).toNat ∧ (∀ j : Nat, j ≠ (21 * x1.toInt + x2.toInt).toNat → KN2 j = KN j) ∧ jot CO2 SQ2 RG2 BG2 CO SQ RG BG (21 * x1.toInt + x2.toInt).toNat) ∧ jkc 5 [0, 23, 24] V0 V) r V → Q r V) (hm : ((600001 - i4n92.toInt) * 1000 + (i5n92.toInt + 1) * 10 + (7 - (F17n92 i5n92.toInt.toNat).toInt)).toNat < N + 1) (hall : 0 ≤ i4n92.toInt ∧ i4n92.toInt ≤ 600000) (hrow : ∀ k : Nat, (k : Int) ≤ i5n92.toInt → -1 ≤ (F17n92 k).toInt ∧ (F17n92 k).toInt < jdir x1.toInt) (hpl : ∀ k : Nat, (k : Int) ≤ i5n92.toInt → jnb x1.toInt k (jPf F18n92 F19n92 F20n92 k)) (hnd : ∀ i k : Nat, i < k → (k : Int) ≤ i5n92.toInt → ¬ jPf F18n92 F19n92 F20n92 k = jPf F18n92 F19n92 F20n92 i) (hse : jsn F41n92 (jplb (jPf F18n92 F19n92 F20n92) (i5n92.toInt + 1).toNat)) (hhx : ∀ k : Nat, (k : Int) ≤ i5n92.toInt → (F26n92 k).toInt = jtp (jpl3 (jPf F18n92 F19n92 F20n92) k)) (hco : 0 ≤ (F23n92 (21 * x1.toInt + x2.toInt).toNat).toInt ∧ (F23n92 (21 * x1.toInt + x2.toInt).toNat).toInt ≤ i4n92.toInt + 1) (ho5 : jot F23n92 F46n92 F24n92 F25n92 CO SQ RG BG (21 * x1.toInt + x2.toInt).toNat) (ih92 : ∀ (V : jH) (i4n92 : Int32) (i5n92 : Int32) (gs92a0 : List Value) (F17n92 : Nat → Int32) (F18n92 : Nat → Int32) (F19n92 : Nat → Int32) (F20n92 : Nat → Int32) (F23n92 : Nat → Int32) (F46n92 : Nat → Int64) (F24n92 : Nat → Int32) (F25n92 : Nat → Int32) (F41n92 : Nat → Int32) (F26n92 : Nat → Int32), WT V → jeff [.inr 5, .inl 40, .inl 23, .inl 17, .inl 18, .inl 19, .inl 20, .inl 41, .inl 26, .inl 46, .inl 24, .inl 25] V0 V → (jis V (.inr 5) a0) → (jis V (.inl 17) rw) → (jis V (.inl 18) px) → (jis V (.inl 19) py) → (jis V (.inl 20) pz) → (jis V (.inl 40) kn) → (jis V (.inl 23) co) → (jis V (.inl 46) sq) → (jis V (.inl 24) rg) → (jis V (.inl 25) bg) → (jis V (.inl 41) se) → (jis V (.inl 26) hx) → (jkc 5 [0, 23, 24] V0 V) → (V a0 = some (.inr (5, gs92a0))) → (gs92a0[4]? = some (.ref rw)) → (gs92a0[6]? = some (.ref px)) → (gs92a0[7]? = some (.ref py)) → (gs92a0[8]? = some (.ref pz)) → (gs92a0[11]? = some (.ref kn)) → (gs92a0[12]? = some (.ref co)) → (gs92a0[13]? = some (.ref sq)) → (gs92a0[14]? = some (.ref rg)) → (gs92a0[15]? = some (.ref bg)) → (gs92a0[16]? = some (.ref se)) → (gs92a0[17]? = some (.ref hx)) → (V rw = some (.inl (17, 120, .inl F17n92))) → (V px = some (.inl (18, 121, .inl F18n92))) → (V py = some (.inl (19, 121, .inl F19n92))) → (V pz = some (.inl (20, 121, .inl F20n92))) → (V co = some (.inl (23, 84, .inl F23n92))) → (V sq = some (.inl (46, 84, .inr (.inl F46n92)))) → (V rg = some (.inl (24, 84, .inl F24n92))) → (V bg = some (.inl (25, 84, .inl F25n92))) → (V se = some (.inl (41, 79507, .inl F41n92))) → (V hx = some (.inl (26, 22, .inl F26n92))) → (V kn = some (.inl (40, 84, .inl G23))) → (-1 ≤ i5n92.toInt ∧ i5n92.toInt ≤ 19 ∧ (i5n92.toInt < x2.toInt ∨ x2.toInt = 0)) → (0 ≤ i4n92.toInt ∧ i4n92.toInt ≤ 600000) → (∀ k : Nat, (k : Int) ≤ i5n92.toInt → -1 ≤ (F17n92 k).toInt ∧ (F17n92 k).toInt < jdir x1.toInt) → (∀ k : Nat, (k : Int) ≤ i5n92.toInt → jnb x1.toInt k (jPf F18n92 F19n92 F20n92 k)) → (∀ i k : Nat, i < k → (k : Int) ≤ i5n92.toInt → ¬ jPf F18n92 F19n92 F20n92 k = jPf F18n92 F19n92 F20n92 i) → (jsn F41n92 (jplb (jPf F18n92 F19n92 F20n92) (i5n92.toInt + 1).toNat)) → (∀ k : Nat, (k : Int) ≤ i5n92.toInt → (F26n92 k).toInt = jtp (jpl3 (jPf F18n92 F19n92 F20n92) k)) → (1 ≤ x2.toInt → jrS x1.toInt x2.toInt.toNat i5n92.toInt i4n92.toInt (jac F23n92 F46n92 F24n92 F25n92 (21 * x1.toInt + x2.toInt).toNat) F18n92 F19n92 F20n92 F17n92) → (0 ≤ (F23n92 (21 * x1.toInt + x2.toInt).toNat).toInt ∧ (F23n92 (21 * x1.toInt + x2.toInt).toNat).toInt ≤ i4n92.toInt + 1) → (x2.toInt = 0 → (F23n92 (21 * x1.toInt + x2.toInt).toNat).toInt = 1 ∧ F46n92 (21 * x1.toInt + x2.toInt).toNat = 0 ∧ F24n92 (21 * x1.toInt + x2.toInt).toNat = 0 ∧ F25n92 (21 * x1.toInt + x2.toInt).toNat = 0 ∧ i5n92.toInt = 0) → (jot F23n92 F46n92 F24n92 F25n92 CO SQ RG BG (21 * x1.toInt + x2.toInt).toNat) → ((600001 - i4n92.toInt) * 1000 + (i5n92.toInt + 1) * 10 + (7 - (F17n92 i5n92.toInt.toNat).toInt)).toNat < N → J tS mX7_counts d 92 [some (.ref a0), some (.int x1), some (.int x2), some (.int y5), some (.int i4n92), some (.int i5n92), none, none, none, none] [] V 0 0 Q) (hd : 2 ≤ d) (hp0 : 0 ≤ x1.toInt) (hp1 : x1.toInt ≤ 3) (hp2 : 0 ≤ x2.toInt) (hp3 : x2.toInt ≤ 20) (hp4 : jsn SE []) (hp5 : jmo x1.toInt x2.toInt.toNat KN CO SQ RG BG (21 * x1.toInt + x2.toInt).toNat) (hW : WT V360) (he : jeff [.inr 5, .inl 40, .inl 23, .inl 17, .inl 18, .inl 19, .inl 20, .inl 41, .inl 26, .inl 46, .inl 24, .inl 25] V0 V360) (hkp : jkc 5 [0, 23, 24] V0 V360) (hbq459_a0 : jis V360 (.inr 5) a0) (hbq459_rw : jis V360 (.inl 17) rw) (hbq459_px : jis V360 (.inl 18) px) (hbq459_py : jis V360 (.inl 19) py) (hbq459_pz : jis V360 (.inl 20) pz) (hbq459_kn : jis V360 (.inl 40) kn) (hbq459_co : jis V360 (.inl 23) co) (hbq459_sq : jis V360 (.inl 46) sq) (hbq459_rg : jis V360 (.inl 24) rg) (hbq459_bg : jis V360 (.inl 25) bg) (hbq459_se : jis V360 (.inl 41) se) (hbq459_hx : jis V360 (.inl 26) hx) (hOq459_a0 : V360 a0 = some (.inr (5, gs92a0))) (hKq459_a0 : jokO V360 (jFs 5) gs92a0) (hFgs92a0_4 : gs92a0[4]? = some (.ref rw)) (hFgs92a0_6 : gs92a0[6]? = some (.ref px)) (hFgs92a0_7 : gs92a0[7]? = some (.ref py)) (hFgs92a0_8 : gs92a0[8]? = some (.ref pz)) (hFgs92a0_11 : gs92a0[11]? = some (.ref kn)) (hFgs92a0_12 : gs92a0[12]? = some (.ref co)) (hFgs92a0_13 : gs92a0[13]? = some (.ref sq)) (hFgs92a0_14 : gs92a0[14]? = some (.ref rg)) (hFgs92a0_15 : gs92a0[15]? = some (.ref bg)) (hFgs92a0_16 : gs92a0[16]? = some (.ref se)) (hFgs92a0_17 : gs92a0[17]? = some (.ref hx)) (haq459_co : V360 co = some (.inl (23, 84, .inl F23n92))) (haq459_sq : V360 sq = some (.inl (46, 84, .inr (.inl F46n92)))) (haq459_rg : V360 rg = some (.inl (24, 84, .inl F24n92))) (haq459_bg : V360 bg = some (.inl (25, 84, .inl F25n92))) (haq459_se : V360 se = some (.inl (41, 79507, .inl F41n92))) (haq459_kn : V360 kn = some (.inl (40, 84, .inl G23))) (haq459_rw : V360 rw = some (.inl (17, 120, .inl G111))) (haq459_px : V360 px = some (.inl (18, 121, .inl G286))) (haq459_py : V360 py = some (.inl (19, 121, .inl G297))) (haq459_pz : V360 pz = some (.inl (20, 121, .inl G308))) (hA360 : V360 hx = some (.inl (26, 22, .inl G360))) (he5 : jEq y5.toInt ((21) * (x1.toInt) + x2.toInt)) (he251 : jEq y251.toInt (i4n92.toInt + 1)) (he168 : jEq y168.toInt (y108.toInt + 1)) (he184 : jEq y184.toInt (y177.toInt + (jsx (x1.toInt) (y108.toInt + 1)))) (he215 : jEq y215.toInt (y193.toInt + (jsy (x1.toInt) (y108.toInt + 1) (y177.toInt + y193.toInt)))) (he231 : jEq y231.toInt (y224.toInt + (jsz (x1.toInt) (y108.toInt + 1)))) (he110 : jEq y110.toInt (y108.toInt + 1)) (hjb : 3 ≤ jdir x1.toInt ∧ jdir x1.toInt ≤ 6) (hdx : i5n92.toInt < x2.toInt) (hd19 : i5n92.toInt ≤ 19) (hremQ : jrS x1.toInt x2.toInt.toNat i5n92.toInt i4n92.toInt (jac F23n92 F46n92 F24n92 F25n92 (21 * x1.toInt + x2.toInt).toNat) F18n92 F19n92 F20n92 F17n92) (c94 : ¬ i5n92.toInt < 0) (c98 : ¬ x2.toInt ≤ 0) (hb108 : -1 ≤ y108.toInt ∧ y108.toInt < jdir x1.toInt) (e108 : (F17n92 i5n92.toInt.toNat).toInt = y108.toInt) (hp111 : G111 i5n92.toInt.toNat = y110) (ho111 : ∀ k : Nat, k ≠ i5n92.toInt.toNat → G111 k = F17n92 k) (c123 : ¬ y108.toInt + 1 = jdir x1.toInt) (hq0 : jnb x1.toInt i5n92.toInt.toNat ((jPf F18n92 F19n92 F20n92) i5n92.toInt.toNat)) (e177 : (F18n92 i5n92.toInt.toNat).toInt = y177.toInt) (e193 : (F19n92 i5n92.toInt.toNat).toInt = y193.toInt) (e224 : (F20n92 i5n92.toInt.toNat).toInt = y224.toInt) (hbnd : (-i5n92.toInt ≤ y177.toInt ∧ y177.toInt ≤ i5n92.toInt) ∧ (-i5n92.toInt ≤ y193.toInt ∧ y193.toInt ≤ i5n92.toInt) ∧ (-i5n92.toInt ≤ y224.toInt ∧ y224.toInt ≤ i5n92.toInt)) (hbsx : -1 ≤ jsx x1.toInt (y108.toInt + 1) ∧ jsx x1.toInt (y108.toInt + 1) ≤ 1) (hbsy : -1 ≤ jsy x1.toInt (y108.toInt + 1) (y177.toInt + y193.toInt) ∧ jsy x1.toInt (y108.toInt + 1) (y177.toInt + y193.toInt) ≤ 1) (hbsz : -1 ≤ jsz x1.toInt (y108.toInt + 1) ∧ jsz x1.toInt (y108.toInt + 1) ≤ 1) (c258 : i4n92.toInt + 1 ≤ 600000) (hPJ : jnx x1.toInt (y108.toInt + 1) ((jPf F18n92 F19n92 F20n92) i5n92.toInt.toNat) = ((y177.toInt + jsx x1.toInt (y108.toInt + 1)), (y193.toInt + jsy x1.toInt (y108.toInt + 1) (y177.toInt + y193.toInt)), (y224.toInt + jsz x1.toInt (y108.toInt + 1)))) (hnbN : jnb x1.toInt (i5n92.toInt.toNat + 1) ((y177.toInt + jsx x1.toInt (y108.toInt + 1)), (y193.toInt + jsy x1.toInt (y108.toInt + 1) (y177.toInt + y193.toInt)), (y224.toInt + jsz x1.toInt (y108.toInt + 1)))) (hbxN : jbx ((y177.toInt + jsx x1.toInt (y108.toInt + 1)), (y193.toInt + jsy x1.toInt (y108.toInt + 1) (y177.toInt + y193.toInt)), (y224.toInt + jsz x1.toInt (y108.toInt + 1)))) (hsb : 0 ≤ jspot ((y177.toInt + jsx x1.toInt (y108.toInt + 1)), (y193.toInt + jsy x1.toInt (y108.toInt + 1) (y177.toInt + y193.toInt)), (y224.toInt + jsz x1.toInt (y108.toInt + 1))) ∧ jspot ((y177.toInt + jsx x1.toInt (y108.toInt + 1)), (y193.toInt + jsy x1.toInt (y108.toInt + 1) (y177.toInt + y193.toInt)), (y224.toInt + jsz x1.toInt (y108.toInt + 1))) ≤ 79506) (hnin : ¬ ((y177.toInt + jsx x1.toInt (y108.toInt + 1)), (y193.toInt + jsy x1.toInt (y108.toInt + 1) (y177.toInt + y193.toInt)), (y224.toInt + jsz x1.toInt (y108.toInt + 1))) ∈ (jpl3 (jPf F18n92 F19n92 F20n92) i5n92.toInt.toNat)) (hPk : ∀ k : Nat, k ≤ i5n92.toInt.toNat → (jPf F18n92 F19n92 F20n92) k = jPf G286 G297 G308 k) (hPN : jPf G286 G297 G308 (i5n92.toInt.toNat + 1) = ((y177.toInt + jsx x1.toInt (y108.toInt + 1)), (y193.toInt + jsy x1.toInt (y108.toInt + 1) (y177.toInt + y193.toInt)), (y224.toInt + jsz x1.toInt (y108.toInt + 1)))) (hk360_0 : t0k360.toInt = jtp (((y177.toInt + jsx x1.toInt (y108.toInt + 1)), (y193.toInt + jsy x1.toInt (y108.toInt + 1) (y177.toInt + y193.toInt)), (y224.toInt + jsz x1.toInt (y108.toInt + 1))) :: (jpl3 (jPf F18n92 F19n92 F20n92) i5n92.toInt.toNat))) (hp360 : G360 (i5n92.toInt + 1).toNat = t0k360) (ho360 : ∀ k : Nat, k ≠ (i5n92.toInt + 1).toNat → G360 k = F26n92 k) (c366 : ¬ i5n92.toInt + 1 = x2.toInt) : J tS mX7_counts d 459 [some (.ref a0), some (.int x1), some (.int x2), some (.int y5), some (.int y251), some (.int i5n92), some (.int y168), some (.int y184), some (.int y215), some (.int y231)] [] V360 0 0 Q := by
  obtain ⟨hN9, hv459_co⟩ := WT_rngI (r := ((-2147483648), 2147483647)) hW id rfl haq459_co
  clear hN9
  obtain ⟨hN9, hv459_rg⟩ := WT_rngI (r := ((-2147483648), 2147483647)) hW id rfl haq459_rg
  clear hN9
  obtain ⟨hN9, hv459_bg⟩ := WT_rngI (r := ((-2147483648), 2147483647)) hW id rfl haq459_bg
  clear hN9
  obtain ⟨hN9, hv459_se⟩ := WT_rngI (r := (0, 1)) hW id rfl haq459_se
  clear hN9
  obtain ⟨hN9, hv459_kn⟩ := WT_rngI (r := (0, 1)) hW id rfl haq459_kn
  clear hN9
  obtain ⟨hN9, hv459_rw⟩ := WT_rngI (r := ((-2147483648), 2147483647)) hW id rfl haq459_rw
  clear hN9
  obtain ⟨hN9, hv459_px⟩ := WT_rngI (r := ((-2147483648), 2147483647)) hW id rfl haq459_px
  clear hN9
  obtain ⟨hN9, hv459_py⟩ := WT_rngI (r := ((-2147483648), 2147483647)) hW id rfl haq459_py
  clear hN9
  obtain ⟨hN9, hv459_pz⟩ := WT_rngI (r := ((-2147483648), 2147483647)) hW id rfl haq459_pz
  clear hN9
  obtain ⟨hN9, hv459_hx⟩ := WT_rngI (r := ((-2147483648), 2147483647)) hW id rfl hA360
  clear hN9
  refine Jz_iinc 1 dX7_counts_459 rfl rfl (by decide) jEq.rf (by decide) (by omega) (by omega) (fun y459 he459 => ?_)
  refine J_aload_n dX7_counts_462 rfl ?_
  refine J_get jf_X7_19 dX7_counts_463 hOq459_a0 hFgs92a0_4 ?_
  refine J_iload dX7_counts_466 rfl ?_
  refine Jz_iconst (-1) dX7_counts_468 (by decide) (fun y468 he468 => ?_)
  refine Jz_iast (r := ((-2147483648), 2147483647)) he459 he468 hW id dX7_counts_469 haq459_rw rfl rfl (by omega) (by omega) (by omega) (by omega) (fun V469 G469 hW hx469 hA469 hp469 ho469 => ?_)
  obtain ⟨hN469, hv469⟩ := WT_rngI (r := ((-2147483648), 2147483647)) hW id rfl hA469
  clear hN469
  have he := he.trans (hx469.sub (jsub_of rfl))
  have hkp := hkp.trans (jkc.of hx469 (jnot_of rfl))
  refine J_aload_n dX7_counts_470 rfl ?_
  refine J_get jf_X7_55 dX7_counts_471 (hx469.2 _ _ hOq459_a0 (jnot_of rfl)) hFgs92a0_16 ?_
  refine J_iload dX7_counts_474 rfl ?_
  refine J_iload dX7_counts_476 rfl ?_
  refine J_iload dX7_counts_478 rfl ?_
  refine J_callS3 moX7_spot jw_ml_X7_177 jw_st_X7_spot dX7_counts_480 (w_X7_spot_z (d - 1) _ y184 y215 y231 (by omega)   (by (try simp only [he184.eq, true_and, and_true]) <;> omega) (by (try simp only [he184.eq, true_and, and_true]) <;> omega) (by (try simp only [he215.eq, true_and, and_true]) <;> omega) (by (try simp only [he215.eq, true_and, and_true]) <;> omega) (by (try simp only [he231.eq, true_and, and_true]) <;> omega) (by (try simp only [he231.eq, true_and, and_true]) <;> omega)) (by omega) (Nat.zero_le _) (Nat.zero_le _) (Nat.le_of_ble_eq_true rfl) (fun r480 V480 h480 => ?_)
  obtain ⟨⟨y480, rfl, hl480, hh480, hP480_0⟩, hE480⟩ := h480
  have hE480 := hE480.symm
  subst hE480
  clear hl480 hh480
  try simp only [he184.eq, he215.eq, he231.eq] at hP480_0
  have hz480 : jEq y480.toInt (jspot ((y177.toInt + (jsx (x1.toInt) (y108.toInt + 1))), (y193.toInt + (jsy (x1.toInt) (y108.toInt + 1) (y177.toInt + y193.toInt))), (y224.toInt + (jsz (x1.toInt) (y108.toInt + 1))))) := hP480_0
  clear hP480_0
  refine Jz_iconst 1 dX7_counts_483 (by decide) (fun y483 he483 => ?_)
  refine Jz_zast (r := (0, 1)) hz480 he483 hW id dX7_counts_484 (hx469.2 _ _ haq459_se (jnot_of rfl)) rfl rfl (by omega) (by omega) (by omega) (by omega) (fun _ h => vp_nar_b (by omega) (by omega)) (fun V484 G484 hW hx484 hA484 hp484 ho484 => ?_)
  obtain ⟨hN484, hv484⟩ := WT_rngI (r := (0, 1)) hW id rfl hA484
  clear hN484
  have he := he.trans (hx484.sub (jsub_of rfl))
  have hkp := hkp.trans (jkc.of hx484 (jnot_of rfl))
  refine J_goto (tgt := 92) dX7_counts_485 (by decide) ?_
  have hm0 : (F17n92 i5n92.toInt.toNat).toInt = y108.toInt := e108
  have hm1 : (G469 (i5n92.toInt + 1).toNat).toInt = -1 := by rw [hp469, he468.eq]
  have hm2 : (G469 i5n92.toInt.toNat).toInt = y108.toInt + 1 := by rw [ho469 i5n92.toInt.toNat (by omega), hp111, he110.eq]
  have hrow1 : ∀ k : Nat, (k : Int) ≤ i5n92.toInt → -1 ≤ (G111 k).toInt ∧ (G111 k).toInt < jdir x1.toInt := fun k hk => by by_cases h9 : (k : Int) = i5n92.toInt; (have e9 : k = i5n92.toInt.toNat := by omega); subst e9; rw [hp111, he110.eq]; omega; rw [ho111 k (by omega)]; exact hrow k (by omega)
  have hseN : jsn G484 (((y177.toInt + jsx x1.toInt (y108.toInt + 1)), (y193.toInt + jsy x1.toInt (y108.toInt + 1) (y177.toInt + y193.toInt)), (y224.toInt + jsz x1.toInt (y108.toInt + 1))) :: jplb (jPf F18n92 F19n92 F20n92) (i5n92.toInt.toNat + 1)) := by
    have q := hse
    rw [show (i5n92.toInt + 1).toNat = i5n92.toInt.toNat + 1 by omega] at q
    exact q.set hbxN (by rw [hp484, he483.eq]; decide) ho484
  have hrem2 : 1 ≤ x2.toInt → jrS x1.toInt x2.toInt.toNat y459.toInt y251.toInt (jac F23n92 F46n92 F24n92 F25n92 (21 * x1.toInt + x2.toInt).toNat) G286 G297 G308 G469 := fun _ => by
    rw [he459.eq]
    exact hremQ.down (by omega) (by rw [e108]; omega) (by rw [e108]; omega) (by rw [hm2, e108]) (fun i hi => (ho469 i (by omega)).trans (ho111 i (by omega))) (by rw [e108, hPJ]; exact hnin) (by omega) (by rw [he251.eq]; omega) hPk (by rw [hPN, e108, hPJ]) (by rw [show i5n92.toInt.toNat + 1 = (i5n92.toInt + 1).toNat by omega]; exact hm1)
  refine J.mask [true, true, true, true, true, true, false, false, false, false] ?_
  exact ih92 _ y251 y459 gs92a0 G469 G286 G297 G308 F23n92 F46n92 F24n92 F25n92 G484 G360 hW he ((hbq459_a0.mono hx469.1).mono hx484.1) ((hbq459_rw.mono hx469.1).mono hx484.1) ((hbq459_px.mono hx469.1).mono hx484.1) ((hbq459_py.mono hx469.1).mono hx484.1) ((hbq459_pz.mono hx469.1).mono hx484.1) ((hbq459_kn.mono hx469.1).mono hx484.1) ((hbq459_co.mono hx469.1).mono hx484.1) ((hbq459_sq.mono hx469.1).mono hx484.1) ((hbq459_rg.mono hx469.1).mono hx484.1) ((hbq459_bg.mono hx469.1).mono hx484.1) ((hbq459_se.mono hx469.1).mono hx484.1) ((hbq459_hx.mono hx469.1).mono hx484.1) hkp (hx484.2 _ _ (hx469.2 _ _ hOq459_a0 (jnot_of rfl)) (jnot_of rfl)) hFgs92a0_4 hFgs92a0_6 hFgs92a0_7 hFgs92a0_8 hFgs92a0_11 hFgs92a0_12 hFgs92a0_13 hFgs92a0_14 hFgs92a0_15 hFgs92a0_16 hFgs92a0_17 (hx484.2 _ _ hA469 (jnot_of rfl)) (hx484.2 _ _ (hx469.2 _ _ haq459_px (jnot_of rfl)) (jnot_of rfl)) (hx484.2 _ _ (hx469.2 _ _ haq459_py (jnot_of rfl)) (jnot_of rfl)) (hx484.2 _ _ (hx469.2 _ _ haq459_pz (jnot_of rfl)) (jnot_of rfl)) (hx484.2 _ _ (hx469.2 _ _ haq459_co (jnot_of rfl)) (jnot_of rfl)) (hx484.2 _ _ (hx469.2 _ _ haq459_sq (jnot_of rfl)) (jnot_of rfl)) (hx484.2 _ _ (hx469.2 _ _ haq459_rg (jnot_of rfl)) (jnot_of rfl)) (hx484.2 _ _ (hx469.2 _ _ haq459_bg (jnot_of rfl)) (jnot_of rfl)) hA484 (hx484.2 _ _ (hx469.2 _ _ hA360 (jnot_of rfl)) (jnot_of rfl)) (hx484.2 _ _ (hx469.2 _ _ haq459_kn (jnot_of rfl)) (jnot_of rfl)) (by (try simp only [he251.eq, he459.eq, true_and, and_true]) <;> omega) (by (try simp only [he251.eq, he459.eq, true_and, and_true]) <;> omega) (fun k hk => by rw [he459.eq] at hk; by_cases h8 : (k : Int) = i5n92.toInt + 1; (have e8 : k = (i5n92.toInt + 1).toNat := by omega); subst e8; rw [hp469, he468.eq]; omega; rw [ho469 k (by omega)]; exact hrow1 k (by omega)) (fun k hk => by rw [he459.eq] at hk; by_cases h8 : (k : Int) = i5n92.toInt + 1; (have e8 : k = i5n92.toInt.toNat + 1 := by omega); subst e8; rw [hPN]; exact hnbN; rw [← hPk k (by omega)]; exact hpl k (by omega)) (fun i k h1 h2 => by rw [he459.eq] at h2; by_cases h8 : (k : Int) = i5n92.toInt + 1; (have e8 : k = i5n92.toInt.toNat + 1 := by omega); subst e8; rw [hPN, ← hPk i (by omega)]; exact (fun z => hnin ((jpl3_mem _).mpr ⟨i, by omega, z⟩)); rw [← hPk k (by omega), ← hPk i (by omega)]; exact hnd i k h1 (by omega)) (by rw [he459.eq, show (i5n92.toInt + 1 + 1).toNat = (i5n92.toInt.toNat + 1) + 1 by omega, jplb_succ, hPN, ← jplb_congr (i5n92.toInt.toNat + 1) (fun i hi => hPk i (by omega))]; exact hseN) (fun k hk => by rw [he459.eq] at hk; by_cases h8 : (k : Int) = i5n92.toInt + 1; (have e8 : k = i5n92.toInt.toNat + 1 := by omega); subst e8; (show _ = jtp (jPf G286 G297 G308 (i5n92.toInt.toNat + 1) :: jpl3 (jPf G286 G297 G308) i5n92.toInt.toNat)); rw [hPN, ← jpl3_congr i5n92.toInt.toNat (fun i hi => hPk i (by omega)), show i5n92.toInt.toNat + 1 = (i5n92.toInt + 1).toNat by omega, hp360]; exact hk360_0; rw [ho360 k (by omega), ← jpl3_congr k (fun i hi => hPk i (by omega))]; exact hhx k (by omega)) hrem2 (by rw [he251.eq]; omega) (fun q => absurd q (by omega)) ho5 (by (try simp only [he251.eq, he459.eq, true_and, and_true]) <;> omega)
