set_option maxRecDepth 100000 in
set_option maxHeartbeats 8000000 in
theorem w_X7_countWays_z {tS : jTS} (d : Nat) (V0 : jH) (a0 : Nat) (wd : Int32) (hg : Int32) (cv : Int32) (sv : Int32) (fv : Int32) (rh : Nat) (wb : Nat) (op : Nat → Bool) (NO : Nat) (H43 : Nat → Int32) (WB : Nat → Int32) (hd : 2 ≤ d) (hW : WT V0) (ha0 : jis V0 (.inr 5) a0) (hf_wd : jfI V0 a0 5 23 wd) (hf_hg : jfI V0 a0 5 24 hg) (hf_cv : jfI V0 a0 5 26 cv) (hf_sv : jfI V0 a0 5 27 sv) (hf_fv : jfI V0 a0 5 28 fv) (hr_rh : jfR V0 a0 5 25 rh) (hr_wb : jfR V0 a0 5 29 wb) (ha_H43 : V0 rh = some (.inl (43, 36, .inl H43))) (ha_WB : V0 wb = some (.inl (30, 36, .inl WB))) (hp0 : 2 ≤ wd.toInt) (hp1 : wd.toInt ≤ 6) (hp2 : 2 ≤ hg.toInt) (hp3 : hg.toInt ≤ 6) (hp4 : jopr op wd.toInt.toNat hg.toInt.toNat H43) (hp5 : jcn 1 H43 (wd.toInt * hg.toInt).toNat = NO) (hp6 : jrm9 op (wd.toInt + 8 * hg.toInt).toNat NO cv sv fv WB) : jTot tS mX7_countWays d [.ref a0] V0 0 0 (fun r V => (jPost [.inr 5, .inl 30, .inl 44, .inl 31, .inl 32] V0 rV) r V ∧ (∃ (WB2 : Nat → Int32) (cv2 sv2 fv2 : Int32), V wb = some (.inl (30, 36, .inl WB2)) ∧ jfI V a0 5 26 cv2 ∧ jfI V a0 5 27 sv2 ∧ jfI V a0 5 28 fv2 ∧ jrd9 op (wd.toInt + 8 * hg.toInt).toNat NO sv2 fv2 WB2) ∧ jkc 5 [0, 23, 24] V0 V ∧ (∃ wd2 : Int32, jfI V a0 5 23 wd2 ∧ (wd2.toInt = wd.toInt)) ∧ (∃ hg2 : Int32, jfI V a0 5 24 hg2 ∧ (hg2.toInt = hg.toInt))) := by
  refine jTot.of_J [some (.ref a0), none, none, none, none] moX7_countWays (Nat.le_of_ble_eq_true rfl) rfl ?_
  have he : jeff [.inr 5, .inl 30, .inl 44, .inl 31, .inl 32] V0 V0 := jeff.refl _ _
  have hkp : jkc 5 [0, 23, 24] V0 V0 := jkc.rf
  obtain ⟨fs_a0, hO_a0, hK_a0⟩ := WT_obj hW id ha0
  have hF_wd := hf_wd.get hO_a0
  have hrwd : 2 ≤ wd.toInt ∧ wd.toInt ≤ 6 := jok_rngI hK_a0 rfl hF_wd
  have hF_hg := hf_hg.get hO_a0
  have hrhg : 2 ≤ hg.toInt ∧ hg.toInt ≤ 6 := jok_rngI hK_a0 rfl hF_hg
  have hF_cv := hf_cv.get hO_a0
  have hrcv : 0 ≤ cv.toInt ∧ cv.toInt ≤ 1 := jok_rngI hK_a0 rfl hF_cv
  have hF_sv := hf_sv.get hO_a0
  have hrsv : 0 ≤ sv.toInt ∧ sv.toInt ≤ 1 := jok_rngI hK_a0 rfl hF_sv
  have hF_fv := hf_fv.get hO_a0
  have hrfv : (-2147483648) ≤ fv.toInt ∧ fv.toInt ≤ 2147483647 := jok_rngI hK_a0 rfl hF_fv
  have hF_rh := hr_rh.get hO_a0
  obtain ⟨w_rh, hFq_rh, b_rh, hbq_rh, hb_rh⟩ := hK_a0.2 25 (.inr (some (.inl 43))) rfl
  cases hF_rh.symm.trans (hFq_rh.trans (congrArg some hbq_rh))
  have hF_wb := hr_wb.get hO_a0
  obtain ⟨w_wb, hFq_wb, b_wb, hbq_wb, hb_wb⟩ := hK_a0.2 29 (.inr (some (.inl 30))) rfl
  cases hF_wb.symm.trans (hFq_wb.trans (congrArg some hbq_wb))
  obtain ⟨hN_H43, hv_H43⟩ := WT_rngI (r := (0, 1)) hW id rfl ha_H43
  clear hN_H43
  obtain ⟨hN_WB, hv_WB⟩ := WT_rngI (r := ((-2147483648), 2147483647)) hW id rfl ha_WB
  clear hN_WB
  have hA0 := Int.mul_le_mul (show 2 ≤ wd.toInt by omega) (show 2 ≤ hg.toInt by omega) (by omega) (by omega)
  have hA1 := Int.mul_le_mul (show wd.toInt ≤ 6 by omega) (show hg.toInt ≤ 6 by omega) (by omega) (by omega)
  refine J_aload_n dX7_countWays_0 rfl ?_
  refine J_get jf_X7_214 dX7_countWays_1 hO_a0 hF_cv ?_
  refine Jz_if_eq (tgt := 8) jEq.rf dX7_countWays_4 (by decide) (fun c4 => ?_) (fun c4 => ?_)
  · refine J_aload_n dX7_countWays_8 rfl ?_
    refine Jz_iconst 1 dX7_countWays_9 (by decide) (fun y9 he9 => ?_)
    refine Jz_putI hO_a0 hW id rfl jf_X7_214 jt_X7_26 he9 dX7_countWays_10 (by omega) (by omega) (fun _ h => ⟨nar_b (by omega) (by omega), fit_b (by omega) (by omega)⟩) (fun V10 fs10 hW hx10 hO10 hS10 hT10 hB10 => ?_)
    have hK10 : jokO _ (jFs 5) fs10 := hW _ _ id hO10
    have hF10_23 := (hT10 23 (by decide)).trans hF_wd
    have hF10_24 := (hT10 24 (by decide)).trans hF_hg
    have hF10_27 := (hT10 27 (by decide)).trans hF_sv
    have hF10_28 := (hT10 28 (by decide)).trans hF_fv
    have hF10_25 := (hT10 25 (by decide)).trans hF_rh
    have hF10_29 := (hT10 29 (by decide)).trans hF_wb
    have he := he.trans (hx10.sub (jsub_of rfl))
    have hkp := hkp.trans (jkc.put hO_a0 hO10 hT10 hB10 (by decide))
    have ha0 := ha0.mono hx10.1
    have hb_rh := hb_rh.mono hx10.1
    have hb_wb := hb_wb.mono hx10.1
    have ha_H43 := hx10.2 _ _ ha_H43 (jnot_of rfl)
    have ha_WB := hx10.2 _ _ ha_WB (jnot_of rfl)
    refine J_aload_n dX7_countWays_13 rfl ?_
    refine Jz_iconst 0 dX7_countWays_14 (by decide) (fun y14 he14 => ?_)
    refine Jz_putI hO10 hW id rfl jf_X7_218 jt_X7_27 he14 dX7_countWays_15 (by omega) (by omega) (fun _ h => ⟨nar_b (by omega) (by omega), fit_b (by omega) (by omega)⟩) (fun V15 fs15 hW hx15 hO15 hS15 hT15 hB15 => ?_)
    have hK15 : jokO _ (jFs 5) fs15 := hW _ _ id hO15
    have hF15_26 := (hT15 26 (by decide)).trans hS10
    have hF15_23 := (hT15 23 (by decide)).trans hF10_23
    have hF15_24 := (hT15 24 (by decide)).trans hF10_24
    have hF15_28 := (hT15 28 (by decide)).trans hF10_28
    have hF15_25 := (hT15 25 (by decide)).trans hF10_25
    have hF15_29 := (hT15 29 (by decide)).trans hF10_29
    have he := he.trans (hx15.sub (jsub_of rfl))
    have hkp := hkp.trans (jkc.put hO10 hO15 hT15 hB15 (by decide))
    have ha0 := ha0.mono hx15.1
    have hb_rh := hb_rh.mono hx15.1
    have hb_wb := hb_wb.mono hx15.1
    have ha_H43 := hx15.2 _ _ ha_H43 (jnot_of rfl)
    have ha_WB := hx15.2 _ _ ha_WB (jnot_of rfl)
    refine J_aload_n dX7_countWays_18 rfl ?_
    refine Jz_iconst 0 dX7_countWays_19 (by decide) (fun y19 he19 => ?_)
    refine Jz_putI hO15 hW id rfl jf_X7_221 jt_X7_28 he19 dX7_countWays_20 (by omega) (by omega) (fun _ _ => ⟨rfl, rfl⟩) (fun V20 fs20 hW hx20 hO20 hS20 hT20 hB20 => ?_)
    have hK20 : jokO _ (jFs 5) fs20 := hW _ _ id hO20
    have hF20_27 := (hT20 27 (by decide)).trans hS15
    have hF20_26 := (hT20 26 (by decide)).trans hF15_26
    have hF20_23 := (hT20 23 (by decide)).trans hF15_23
    have hF20_24 := (hT20 24 (by decide)).trans hF15_24
    have hF20_25 := (hT20 25 (by decide)).trans hF15_25
    have hF20_29 := (hT20 29 (by decide)).trans hF15_29
    have he := he.trans (hx20.sub (jsub_of rfl))
    have hkp := hkp.trans (jkc.put hO15 hO20 hT20 hB20 (by decide))
    have ha0 := ha0.mono hx20.1
    have hb_rh := hb_rh.mono hx20.1
    have hb_wb := hb_wb.mono hx20.1
    have ha_H43 := hx20.2 _ _ ha_H43 (jnot_of rfl)
    have ha_WB := hx20.2 _ _ ha_WB (jnot_of rfl)
    refine Jz_iconst 0 dX7_countWays_23 (by decide) (fun y23 he23 => ?_)
    refine J_istore_n dX7_countWays_24 rfl (by decide) ?_
    obtain ⟨w25t30, hF25t30, b25t30, rfl, hb25t30⟩ := hK20.2 30 (.inr (some (.inl 44))) rfl
    obtain ⟨n25tb25t30, f25tb25t30, hA25tb25t30, hN25tb25t30, hM25tb25t30, hv25tb25t30⟩ := WT_arrI (r := (0, 1)) hW id rfl hb25t30
    obtain rfl := hM25tb25t30 36 rfl
    clear hN25tb25t30 hM25tb25t30
    have L25 : ∀ (N : Nat) (V : jH) (i1n25 : Int32) (F44n25 : Nat → Int32) (F30n25 : Nat → Int32), WT V → jeff [.inr 5, .inl 30, .inl 44, .inl 31, .inl 32] V0 V → (jis V (.inr 5) a0) → (jis V (.inl 43) rh) → (jis V (.inl 30) wb) → (jis V (.inl 44) b25t30) → (jkc 5 [0, 23, 24] V0 V) → (V a0 = some (.inr (5, fs20))) → (jokO V (jFs 5) fs20) → (V b25t30 = some (.inl (44, 36, .inl F44n25))) → (V wb = some (.inl (30, 36, .inl F30n25))) → (V rh = some (.inl (43, 36, .inl H43))) → (0 ≤ i1n25.toInt) → (∀ k : Nat, (k : Int) < i1n25.toInt → (F44n25 k).toInt = 0) → (∀ k : Nat, (k : Int) < i1n25.toInt → (F30n25 k).toInt = 0) → (300 - i1n25.toInt).toNat < N → J tS mX7_countWays d 25 [some (.ref a0), some (.int i1n25), none, none, none] [] V 0 0 (fun r V => (jPost [.inr 5, .inl 30, .inl 44, .inl 31, .inl 32] V0 rV) r V ∧ (∃ (WB2 : Nat → Int32) (cv2 sv2 fv2 : Int32), V wb = some (.inl (30, 36, .inl WB2)) ∧ jfI V a0 5 26 cv2 ∧ jfI V a0 5 27 sv2 ∧ jfI V a0 5 28 fv2 ∧ jrd9 op (wd.toInt + 8 * hg.toInt).toNat NO sv2 fv2 WB2) ∧ jkc 5 [0, 23, 24] V0 V ∧ (∃ wd2 : Int32, jfI V a0 5 23 wd2 ∧ (wd2.toInt = wd.toInt)) ∧ (∃ hg2 : Int32, jfI V a0 5 24 hg2 ∧ (hg2.toInt = hg.toInt))) := by
      intro N
      induction N with
      | zero => intro V i1n25 F44n25 F30n25 hW he ha0 hb_rh hb_wb hb25t30 hkp hO20 hK20 hAF44n25 hAF30n25 ha_H43 hi1 hz hw0 hm; exact absurd hm (Nat.not_lt_zero _)
      | succ N ih =>
        intro V i1n25 F44n25 F30n25 hW he ha0 hb_rh hb_wb hb25t30 hkp hO20 hK20 hAF44n25 hAF30n25 ha_H43 hi1 hz hw0 hm
        have ih25 := ih
        have hri1 := j_rng i1n25
        obtain ⟨hNF44n25, hvF44n25⟩ := WT_rngI (r := (0, 1)) hW id rfl hAF44n25
        clear hNF44n25
        obtain ⟨hNF30n25, hvF30n25⟩ := WT_rngI (r := ((-2147483648), 2147483647)) hW id rfl hAF30n25
        clear hNF30n25
        refine J_iload_n dX7_countWays_25 rfl ?_
        refine Jz_bipush 36 dX7_countWays_26 (by decide) (fun y26 he26 => ?_)
        refine Jz_icmp_ge (tgt := 51) jEq.rf he26 dX7_countWays_28 (by decide) (fun c28 => ?_) (fun c28 => ?_)
        · refine Jz_iconst 0 dX7_countWays_51 (by decide) (fun y51 he51 => ?_)
          refine J_istore_n dX7_countWays_52 rfl (by decide) ?_
          refine Jz_iconst 0 dX7_countWays_53 (by decide) (fun y53 he53 => ?_)
          refine J_istore_n dX7_countWays_54 rfl (by decide) ?_
          refine J_aload_n dX7_countWays_55 rfl ?_
          refine Jw_callV0 (q9 := (RX7, TX7, 34)) moX7_open jw_ml_X7_224 jw_im_X7_open jw_se_X7_open ha0 rfl rfl dX7_countWays_56 (w_X7_open_z (d - 1) _ a0 wd hg rh H43 (by omega) hW  ha0 ⟨_, hO20, hF20_23⟩ ⟨_, hO20, hF20_24⟩ ⟨_, hO20, hF20_25⟩ ha_H43 (by omega) (by omega) (by omega) (by omega)) (by omega) (Nat.zero_le _) (Nat.zero_le _) (Nat.le_of_ble_eq_true rfl) (fun r56 V56 h56 => ?_)
          obtain ⟨⟨y56, rfl, hl56, hh56, hP56_0⟩, hE56⟩ := h56
          have hE56 := hE56.symm
          subst hE56
          clear hl56 hh56
          refine J_istore_n dX7_countWays_59 rfl (by decide) ?_
          refine J_aload_n dX7_countWays_60 rfl ?_
          obtain ⟨w61, hF61, b61, rfl, hb61⟩ := hK20.2 31 (.inr (some (.inl 31))) rfl
          refine J_get jf_X7_89 dX7_countWays_61 hO20 hF61 ?_
          refine Jz_iconst 0 dX7_countWays_64 (by decide) (fun y64 he64 => ?_)
          refine Jz_iconst 0 dX7_countWays_65 (by decide) (fun y65 he65 => ?_)
          obtain ⟨n66, f66, hA66, hN66, hM66, hv66⟩ := WT_arrI (r := (0, 35)) hW id rfl hb61
          obtain rfl := hM66 37 rfl
          clear hN66 hM66
          refine Jz_iast (r := (0, 35)) he64 he65 hW id dX7_countWays_66 hA66 rfl rfl (by omega) (by omega) (by omega) (by omega) (fun V66 G66 hW hx66 hA66 hp66 ho66 => ?_)
          obtain ⟨hN66, hv66⟩ := WT_rngI (r := (0, 35)) hW id rfl hA66
          clear hN66
          have he := he.trans (hx66.sub (jsub_of rfl))
          have hkp := hkp.trans (jkc.of hx66 (jnot_of rfl))
          have ha0 := ha0.mono hx66.1
          have hb_rh := hb_rh.mono hx66.1
          have hb_wb := hb_wb.mono hx66.1
          have hb25t30 := hb25t30.mono hx66.1
          have hb61 := hb61.mono hx66.1
          have hO20 := hx66.2 _ _ hO20 (jnot_of rfl)
          have hK20 := hK20.mono hx66.1
          have hAF44n25 := hx66.2 _ _ hAF44n25 (jnot_of rfl)
          have hAF30n25 := hx66.2 _ _ hAF30n25 (jnot_of rfl)
          have ha_H43 := hx66.2 _ _ ha_H43 (jnot_of rfl)
          refine J_aload_n dX7_countWays_67 rfl ?_
          refine J_get jf_X7_86 dX7_countWays_68 hO20 hF25t30 ?_
          refine Jz_iconst 0 dX7_countWays_71 (by decide) (fun y71 he71 => ?_)
          refine Jz_iconst 1 dX7_countWays_72 (by decide) (fun y72 he72 => ?_)
          refine Jz_zast (r := (0, 1)) he71 he72 hW id dX7_countWays_73 hAF44n25 rfl rfl (by omega) (by omega) (by omega) (by omega) (fun _ h => vp_nar_b (by omega) (by omega)) (fun V73 G73 hW hx73 hA73 hp73 ho73 => ?_)
          obtain ⟨hN73, hv73⟩ := WT_rngI (r := (0, 1)) hW id rfl hA73
          clear hN73
          have he := he.trans (hx73.sub (jsub_of rfl))
          have hkp := hkp.trans (jkc.of hx73 (jnot_of rfl))
          have ha0 := ha0.mono hx73.1
          have hb_rh := hb_rh.mono hx73.1
          have hb_wb := hb_wb.mono hx73.1
          have hb25t30 := hb25t30.mono hx73.1
          have hb61 := hb61.mono hx73.1
          have hO20 := hx73.2 _ _ hO20 (jnot_of rfl)
          have hK20 := hK20.mono hx73.1
          have hAF30n25 := hx73.2 _ _ hAF30n25 (jnot_of rfl)
          have ha_H43 := hx73.2 _ _ ha_H43 (jnot_of rfl)
          have hA66 := hx73.2 _ _ hA66 (jnot_of rfl)
          refine J_aload_n dX7_countWays_74 rfl ?_
          obtain ⟨w75, hF75, b75, rfl, hb75⟩ := hK20.2 32 (.inr (some (.inl 32))) rfl
          refine J_get jf_X7_92 dX7_countWays_75 hO20 hF75 ?_
          refine Jz_iconst 0 dX7_countWays_78 (by decide) (fun y78 he78 => ?_)
          refine Jz_iconst (-1) dX7_countWays_79 (by decide) (fun y79 he79 => ?_)
          obtain ⟨n80, f80, hA80, hN80, hM80, hv80⟩ := WT_arrI (r := (-1, 4)) hW id rfl hb75
          obtain rfl := hM80 37 rfl
          clear hN80 hM80
          refine Jz_iast (r := ((-1), 4)) he78 he79 hW id dX7_countWays_80 hA80 rfl rfl (by omega) (by omega) (by omega) (by omega) (fun V80 G80 hW hx80 hA80 hp80 ho80 => ?_)
          obtain ⟨hN80, hv80⟩ := WT_rngI (r := ((-1), 4)) hW id rfl hA80
          clear hN80
          have he := he.trans (hx80.sub (jsub_of rfl))
          have hkp := hkp.trans (jkc.of hx80 (jnot_of rfl))
          have ha0 := ha0.mono hx80.1
          have hb_rh := hb_rh.mono hx80.1
          have hb_wb := hb_wb.mono hx80.1
          have hb25t30 := hb25t30.mono hx80.1
          have hb61 := hb61.mono hx80.1
          have hb75 := hb75.mono hx80.1
          have hO20 := hx80.2 _ _ hO20 (jnot_of rfl)
          have hK20 := hK20.mono hx80.1
          have hAF30n25 := hx80.2 _ _ hAF30n25 (jnot_of rfl)
          have ha_H43 := hx80.2 _ _ ha_H43 (jnot_of rfl)
          have hA66 := hx80.2 _ _ hA66 (jnot_of rfl)
          have hA73 := hx80.2 _ _ hA73 (jnot_of rfl)
          have L81 : ∀ (N : Nat) (V : jH) (i1n81 : Int32) (i2n81 : Int32) (gs81a0 : List Value) (g28n81 : Int32) (F44n81 : Nat → Int32) (F31n81 : Nat → Int32) (F32n81 : Nat → Int32) (F30n81 : Nat → Int32), WT V → jeff [.inr 5, .inl 30, .inl 44, .inl 31, .inl 32] V0 V → (jis V (.inr 5) a0) → (jis V (.inl 43) rh) → (jis V (.inl 30) wb) → (jis V (.inl 44) b25t30) → (jis V (.inl 31) b61) → (jis V (.inl 32) b75) → (jkc 5 [0, 23, 24] V0 V) → (V a0 = some (.inr (5, gs81a0))) → (gs81a0[28]? = some (.int g28n81)) → (gs81a0[27]? = some (.int y14)) → (gs81a0[26]? = some (.int y9)) → (gs81a0[23]? = some (.int wd)) → (gs81a0[24]? = some (.int hg)) → (gs81a0[25]? = some (.ref rh)) → (gs81a0[29]? = some (.ref wb)) → (gs81a0[30]? = some (.ref b25t30)) → (gs81a0[31]? = some (.ref b61)) → (gs81a0[32]? = some (.ref b75)) → (V b25t30 = some (.inl (44, 36, .inl F44n81))) → (V b61 = some (.inl (31, 37, .inl F31n81))) → (V b75 = some (.inl (32, 37, .inl F32n81))) → (V wb = some (.inl (30, 36, .inl F30n81))) → (V rh = some (.inl (43, 36, .inl H43))) → (-1 ≤ i2n81.toInt ∧ i2n81.toInt ≤ 35) → (0 ≤ i1n81.toInt ∧ i1n81.toInt ≤ 600000) → (∀ k : Nat, (k : Int) ≤ i2n81.toInt → -1 ≤ (F32n81 k).toInt ∧ (F32n81 k).toInt ≤ 3) → (∀ k : Nat, (k : Int) ≤ i2n81.toInt → 0 ≤ (F31n81 k).toInt ∧ (F31n81 k).toInt ≤ 35 ∧ ¬ (F44n81 (F31n81 k).toInt.toNat).toInt = 0) → (∀ i j : Nat, i < j → (j : Int) ≤ i2n81.toInt → ¬ (F31n81 i).toInt = (F31n81 j).toInt) → ((jcn 0 F44n81 36 : Int) = i2n81.toInt + 1) → (∀ k : Nat, (k : Int) ≤ i2n81.toInt → (F31n81 k).toInt < wd.toInt * hg.toInt) → (jgn wd.toInt.toNat (wd.toInt * hg.toInt) F44n81 F31n81 i2n81.toInt) → (jwS op (wd.toInt + 8 * hg.toInt).toNat NO wd.toInt.toNat i2n81.toInt i1n81.toInt g28n81 F30n81 F31n81 F32n81) → ((600001 - i1n81.toInt) * 1000 + (i2n81.toInt + 1) * 10 + (7 - (F32n81 i2n81.toInt.toNat).toInt)).toNat < N → J tS mX7_countWays d 81 [some (.ref a0), some (.int i1n81), some (.int i2n81), some (.int y56), none] [] V 0 0 (fun r V => (jPost [.inr 5, .inl 30, .inl 44, .inl 31, .inl 32] V0 rV) r V ∧ (∃ (WB2 : Nat → Int32) (cv2 sv2 fv2 : Int32), V wb = some (.inl (30, 36, .inl WB2)) ∧ jfI V a0 5 26 cv2 ∧ jfI V a0 5 27 sv2 ∧ jfI V a0 5 28 fv2 ∧ jrd9 op (wd.toInt + 8 * hg.toInt).toNat NO sv2 fv2 WB2) ∧ jkc 5 [0, 23, 24] V0 V ∧ (∃ wd2 : Int32, jfI V a0 5 23 wd2 ∧ (wd2.toInt = wd.toInt)) ∧ (∃ hg2 : Int32, jfI V a0 5 24 hg2 ∧ (hg2.toInt = hg.toInt))) := by
            intro N
            induction N with
            | zero => intro V i1n81 i2n81 gs81a0 g28n81 F44n81 F31n81 F32n81 F30n81 hW he ha0 hb_rh hb_wb hb25t30 hb61 hb75 hkp hOgs81a0 hFgs81a0_28 hFgs81a0_27 hFgs81a0_26 hFgs81a0_23 hFgs81a0_24 hFgs81a0_25 hFgs81a0_29 hFgs81a0_30 hFgs81a0_31 hFgs81a0_32 hAF44n81 hAF31n81 hAF32n81 hAF30n81 ha_H43 hd hall htry hway hdis hcnt hwA hgn hst hm; exact absurd hm (Nat.not_lt_zero _)
            | succ N ih =>
              intro V i1n81 i2n81 gs81a0 g28n81 F44n81 F31n81 F32n81 F30n81 hW he ha0 hb_rh hb_wb hb25t30 hb61 hb75 hkp hOgs81a0 hFgs81a0_28 hFgs81a0_27 hFgs81a0_26 hFgs81a0_23 hFgs81a0_24 hFgs81a0_25 hFgs81a0_29 hFgs81a0_30 hFgs81a0_31 hFgs81a0_32 hAF44n81 hAF31n81 hAF32n81 hAF30n81 ha_H43 hd hall htry hway hdis hcnt hwA hgn hst hm
              have ih81 := ih
              have hri1 := j_rng i1n81
              have hri2 := j_rng i2n81
              have hKgs81a0 : jokO V (jFs 5) gs81a0 := hW _ _ id hOgs81a0
              have hrgg28n81 : (-2147483648) ≤ g28n81.toInt ∧ g28n81.toInt ≤ 2147483647 := jok_rngI hKgs81a0 rfl hFgs81a0_28
              obtain ⟨hNF44n81, hvF44n81⟩ := WT_rngI (r := (0, 1)) hW id rfl hAF44n81
              clear hNF44n81
              obtain ⟨hNF31n81, hvF31n81⟩ := WT_rngI (r := (0, 35)) hW id rfl hAF31n81
              clear hNF31n81
              obtain ⟨hNF32n81, hvF32n81⟩ := WT_rngI (r := ((-1), 4)) hW id rfl hAF32n81
              clear hNF32n81
              obtain ⟨hNF30n81, hvF30n81⟩ := WT_rngI (r := ((-2147483648), 2147483647)) hW id rfl hAF30n81
              clear hNF30n81
              have hnum := hst.num
              refine J_iload_n dX7_countWays_81 rfl ?_
              refine Jz_if_lt (tgt := 248) jEq.rf dX7_countWays_82 (by decide) (fun c82 => ?_) (fun c82 => ?_)
              · exact J_ret (r := none) dX7_countWays_248 ⟨rfl, rfl⟩ (⟨⟨hW, he, rfl⟩, ⟨F30n81, y9, y14, g28n81, hAF30n81, ⟨_, hOgs81a0, hFgs81a0_26⟩, ⟨_, hOgs81a0, hFgs81a0_27⟩, ⟨_, hOgs81a0, hFgs81a0_28⟩, (by obtain ⟨⟨q1, q2⟩, q3, -⟩ := hst.last (by omega); exact Or.inr ⟨he14.eq, by omega, q2, q3⟩)⟩, hkp, ⟨_, ⟨_, hOgs81a0, hFgs81a0_23⟩, (by omega)⟩, ⟨_, ⟨_, hOgs81a0, hFgs81a0_24⟩, (by omega)⟩⟩)
              · refine J_aload_n dX7_countWays_85 rfl ?_
                refine J_get jf_X7_92 dX7_countWays_86 hOgs81a0 hFgs81a0_32 ?_
                refine J_iload_n dX7_countWays_89 rfl ?_
                refine J_dup2 dX7_countWays_90 rfl rfl ?_
                refine Jz_iald (r := ((-1), 4)) jEq.rf dX7_countWays_91 hAF32n81 rfl hvF32n81 (by omega) (by omega) (fun y91 hf91 hl91 hh91 => ?_)
                dsimp only at hl91 hh91
                have hb91 := htry i2n81.toInt.toNat (by omega)
                rw [hf91] at hb91
                refine Jz_iconst 1 dX7_countWays_92 (by decide) (fun y92 he92 => ?_)
                refine Jz_iadd jEq.rf he92 dX7_countWays_93 (by omega) (by omega) (fun y93 he93 => ?_)
                refine Jz_iast (r := ((-1), 4)) jEq.rf he93 hW id dX7_countWays_94 hAF32n81 rfl rfl (by omega) (by omega) (by omega) (by omega) (fun V94 G94 hW hx94 hA94 hp94 ho94 => ?_)
                obtain ⟨hN94, hv94⟩ := WT_rngI (r := ((-1), 4)) hW id rfl hA94
                clear hN94
                have he := he.trans (hx94.sub (jsub_of rfl))
                have hkp := hkp.trans (jkc.of hx94 (jnot_of rfl))
                have ha0 := ha0.mono hx94.1
                have hb_rh := hb_rh.mono hx94.1
                have hb_wb := hb_wb.mono hx94.1
                have hb25t30 := hb25t30.mono hx94.1
                have hb61 := hb61.mono hx94.1
                have hb75 := hb75.mono hx94.1
                have hOgs81a0 := hx94.2 _ _ hOgs81a0 (jnot_of rfl)
                have hKgs81a0 := hKgs81a0.mono hx94.1
                have hAF44n81 := hx94.2 _ _ hAF44n81 (jnot_of rfl)
                have hAF31n81 := hx94.2 _ _ hAF31n81 (jnot_of rfl)
                have hAF30n81 := hx94.2 _ _ hAF30n81 (jnot_of rfl)
                have ha_H43 := hx94.2 _ _ ha_H43 (jnot_of rfl)
                refine J_aload_n dX7_countWays_95 rfl ?_
                refine J_get jf_X7_92 dX7_countWays_96 hOgs81a0 hFgs81a0_32 ?_
                refine J_iload_n dX7_countWays_99 rfl ?_
                refine Jz_iald (r := ((-1), 4)) jEq.rf dX7_countWays_100 hA94 rfl hv94 (by omega) (by omega) (fun y100 hf100 hl100 hh100 => ?_)
                dsimp only at hl100 hh100
                clear hl100 hh100
                have he100 : jEq y100.toInt (y91.toInt + 1) := by rw [← hf100, hp94]; exact he93
                refine Jz_iconst 4 dX7_countWays_101 (by decide) (fun y101 he101 => ?_)
                have hm94 := congrArg Int32.toInt hp94
                have hmT : (F32n81 i2n81.toInt.toNat).toInt = y91.toInt := by rw [hf91]
                refine Jz_icmp_ne (tgt := 123) he100 he101 dX7_countWays_102 (by decide) (fun c102 => ?_) (fun c102 => ?_)
                · refine J_aload_n dX7_countWays_123 rfl ?_
                  refine J_aload_n dX7_countWays_124 rfl ?_
                  refine J_get jf_X7_89 dX7_countWays_125 hOgs81a0 hFgs81a0_31 ?_
                  refine J_iload_n dX7_countWays_128 rfl ?_
                  refine Jz_iald (r := (0, 35)) jEq.rf dX7_countWays_129 hAF31n81 rfl hvF31n81 (by omega) (by omega) (fun y129 hf129 hl129 hh129 => ?_)
                  dsimp only at hl129 hh129
                  have hb129 := hway i2n81.toInt.toNat (by omega)
                  rw [hf129] at hb129
                  refine J_aload_n dX7_countWays_130 rfl ?_
                  refine J_get jf_X7_92 dX7_countWays_131 hOgs81a0 hFgs81a0_32 ?_
                  refine J_iload_n dX7_countWays_134 rfl ?_
                  refine Jz_iald (r := ((-1), 4)) jEq.rf dX7_countWays_135 hA94 rfl hv94 (by omega) (by omega) (fun y135 hf135 hl135 hh135 => ?_)
                  dsimp only at hl135 hh135
                  clear hl135 hh135
                  have he135 : jEq y135.toInt (y91.toInt + 1) := by rw [← hf135, hp94]; exact he93
                  have hm129 : (F31n81 i2n81.toInt.toNat).toInt = y129.toInt := by rw [hf129]
                  refine Jw_callV2 (q9 := (RX7, TX7, 34)) moX7_next jw_ml_X7_227 jw_im_X7_next jw_se_X7_next ha0 rfl rfl dX7_countWays_136 (w_X7_next_z (d - 1) _ a0 y129 y135 wd hg rh op H43 (by omega) hW  ha0 ⟨_, hOgs81a0, hFgs81a0_23⟩ ⟨_, hOgs81a0, hFgs81a0_24⟩ ⟨_, hOgs81a0, hFgs81a0_25⟩ ha_H43 (by omega) (by omega) (by omega) (by omega) hp4 (by omega) (by have q := hwA i2n81.toInt.toNat (by omega); omega) (by rw [he135.eq]; omega) (by rw [he135.eq]; omega)) (by omega) (Nat.zero_le _) (Nat.zero_le _) (Nat.le_of_ble_eq_true rfl) (fun r136 V136 h136 => ?_)
                  obtain ⟨⟨y136, rfl, hl136, hh136, hP136_0⟩, hE136⟩ := h136
                  have hE136 := hE136.symm
                  subst hE136
                  try simp only [he135.eq] at hP136_0
                  refine J_istore dX7_countWays_139 rfl (by decide) ?_
                  refine J_iload dX7_countWays_141 rfl ?_
                  refine Jz_iconst (-1) dX7_countWays_143 (by decide) (fun y143 he143 => ?_)
                  refine Jz_icmp_eq (tgt := 245) jEq.rf he143 dX7_countWays_144 (by decide) (fun c144 => ?_) (fun c144 => ?_)
                  · have hnc : ¬ (op (jdk (jpb9 wd.toInt.toNat (F31n81 i2n81.toInt.toNat).toInt.toNat) ((F32n81 i2n81.toInt.toNat).toInt + 1).toNat) = true ∧ ¬ jdk (jpb9 wd.toInt.toNat (F31n81 i2n81.toInt.toNat).toInt.toNat) ((F32n81 i2n81.toInt.toNat).toInt + 1).toNat ∈ jpL wd.toInt.toNat F31n81 (i2n81.toInt.toNat + 1)) := fun z => by rcases hP136_0 with ⟨-, q⟩ | ⟨q, -⟩; rw [(show jdk (jpb9 wd.toInt.toNat y129.toInt.toNat) (y91.toInt + 1).toNat = jdk (jpb9 wd.toInt.toNat (F31n81 i2n81.toInt.toNat).toInt.toNat) ((F32n81 i2n81.toInt.toNat).toInt + 1).toNat by rw [hf129, hf91]), z.1] at q; exact absurd q (by decide); omega
                    refine J_goto (tgt := 81) dX7_countWays_245 (by decide) ?_
                    have hm0 : (F32n81 i2n81.toInt.toNat).toInt = y91.toInt := by rw [hf91]
                    have hm1 : (G94 i2n81.toInt.toNat).toInt = y91.toInt + 1 := by rw [hp94, he93.eq]
                    refine J.mask [true, true, true, true, false] ?_
                    exact ih81 _ i1n81 i2n81 gs81a0 g28n81 F44n81 F31n81 G94 F30n81 hW he ha0 hb_rh hb_wb hb25t30 hb61 hb75 hkp hOgs81a0 hFgs81a0_28 hFgs81a0_27 hFgs81a0_26 hFgs81a0_23 hFgs81a0_24 hFgs81a0_25 hFgs81a0_29 hFgs81a0_30 hFgs81a0_31 hFgs81a0_32 hAF44n81 hAF31n81 hA94 hAF30n81 ha_H43 (by omega) (by omega) (fun k hk => (Nat.decEq k i2n81.toInt.toNat).byCases (fun hq => by rw [hq, hp94, he93.eq]; omega) (fun hq => by rw [ho94 k hq]; exact htry k (by omega))) hway hdis (by omega) hwA hgn (hst.same (by omega) (by omega) (by omega) (by have q := congrArg Int32.toInt hp94; have q9 := he93.eq; omega) ho94 (jch_no hnc)) (by omega)
                  · have hyn : op (jdk (jpb9 wd.toInt.toNat (F31n81 i2n81.toInt.toNat).toInt.toNat) ((F32n81 i2n81.toInt.toNat).toInt + 1).toNat) = true ∧ jpb9 wd.toInt.toNat y136.toInt.toNat = jdk (jpb9 wd.toInt.toNat (F31n81 i2n81.toInt.toNat).toInt.toNat) ((F32n81 i2n81.toInt.toNat).toInt + 1).toNat ∧ 0 ≤ y136.toInt ∧ y136.toInt < wd.toInt * hg.toInt := by rcases hP136_0 with ⟨q, -⟩ | ⟨q1, q2, q3, q4⟩; omega; rw [(show jdk (jpb9 wd.toInt.toNat y129.toInt.toNat) (y91.toInt + 1).toNat = jdk (jpb9 wd.toInt.toNat (F31n81 i2n81.toInt.toNat).toInt.toNat) ((F32n81 i2n81.toInt.toNat).toInt + 1).toNat by rw [hf129, hf91])] at q3 q4; exact ⟨q3, q4, q1, q2⟩
                    refine J_aload_n dX7_countWays_147 rfl ?_
                    refine J_get jf_X7_86 dX7_countWays_148 hOgs81a0 hFgs81a0_30 ?_
                    refine J_iload dX7_countWays_151 rfl ?_
                    refine Jz_zald (r := (0, 1)) jEq.rf dX7_countWays_153 hAF44n81 rfl hvF44n81 (by omega) (by omega) (fun y153 hf153 hl153 hh153 => ?_)
                    dsimp only at hl153 hh153
                    refine Jz_if_ne (tgt := 245) jEq.rf dX7_countWays_154 (by decide) (fun c154 => ?_) (fun c154 => ?_)
                    · have hin : ¬ ¬ jpb9 wd.toInt.toNat y136.toInt.toNat ∈ jpL wd.toInt.toNat F31n81 (i2n81.toInt + 1).toNat := fun z => by have q := (hgn y136.toInt.toNat (by omega)).mpr z; rw [hf153] at q; exact c154 q
                      have hnc : ¬ (op (jdk (jpb9 wd.toInt.toNat (F31n81 i2n81.toInt.toNat).toInt.toNat) ((F32n81 i2n81.toInt.toNat).toInt + 1).toNat) = true ∧ ¬ jdk (jpb9 wd.toInt.toNat (F31n81 i2n81.toInt.toNat).toInt.toNat) ((F32n81 i2n81.toInt.toNat).toInt + 1).toNat ∈ jpL wd.toInt.toNat F31n81 (i2n81.toInt.toNat + 1)) := fun z => hin (by rw [hyn.2.1, show (i2n81.toInt + 1).toNat = i2n81.toInt.toNat + 1 by omega]; exact z.2)
                      refine J_goto (tgt := 81) dX7_countWays_245 (by decide) ?_
                      have hm0 : (F32n81 i2n81.toInt.toNat).toInt = y91.toInt := by rw [hf91]
                      have hm1 : (G94 i2n81.toInt.toNat).toInt = y91.toInt + 1 := by rw [hp94, he93.eq]
                      refine J.mask [true, true, true, true, false] ?_
                      exact ih81 _ i1n81 i2n81 gs81a0 g28n81 F44n81 F31n81 G94 F30n81 hW he ha0 hb_rh hb_wb hb25t30 hb61 hb75 hkp hOgs81a0 hFgs81a0_28 hFgs81a0_27 hFgs81a0_26 hFgs81a0_23 hFgs81a0_24 hFgs81a0_25 hFgs81a0_29 hFgs81a0_30 hFgs81a0_31 hFgs81a0_32 hAF44n81 hAF31n81 hA94 hAF30n81 ha_H43 (by omega) (by omega) (fun k hk => (Nat.decEq k i2n81.toInt.toNat).byCases (fun hq => by rw [hq, hp94, he93.eq]; omega) (fun hq => by rw [ho94 k hq]; exact htry k (by omega))) hway hdis (by omega) hwA hgn (hst.same (by omega) (by omega) (by omega) (by have q := congrArg Int32.toInt hp94; have q9 := he93.eq; omega) ho94 (jch_no hnc)) (by omega)
                    · have hlt := jcn_lt (c := 0) (F := F44n81) (k := y136.toInt.toNat) (by rw [hf153]; exact c154) 36 (by omega)
                      have hyc : jch op (jpL wd.toInt.toNat F31n81 (i2n81.toInt.toNat + 1)) ((F32n81 i2n81.toInt.toNat).toInt + 1).toNat = some (jpb9 wd.toInt.toNat y136.toInt.toNat :: jpL wd.toInt.toNat F31n81 (i2n81.toInt.toNat + 1)) := by rw [hyn.2.1]; exact jch_yes hyn.1 (by have q := (hgn y136.toInt.toNat (by omega)).mp (by rw [hf153]; exact c154); rw [hyn.2.1, show (i2n81.toInt + 1).toNat = i2n81.toInt.toNat + 1 by omega] at q; exact q)
                      refine Jz_iinc 1 dX7_countWays_157 rfl rfl (by decide) jEq.rf (by decide) (by omega) (by omega) (fun y157 he157 => ?_)
                      refine J_iload_n dX7_countWays_160 rfl ?_
                      refine Jz_ldc 600000 jw_k_X7_180 dX7_countWays_161 (by decide) (fun y161 he161 => ?_)
                      refine Jz_icmp_le (tgt := 172) he157 he161 dX7_countWays_163 (by decide) (fun c163 => ?_) (fun c163 => ?_)
                      · refine Jz_iinc 1 dX7_countWays_172 rfl rfl (by decide) jEq.rf (by decide) (by omega) (by omega) (fun y172 he172 => ?_)
                        refine J_aload_n dX7_countWays_175 rfl ?_
                        refine J_get jf_X7_89 dX7_countWays_176 hOgs81a0 hFgs81a0_31 ?_
                        refine J_iload_n dX7_countWays_179 rfl ?_
                        refine J_iload dX7_countWays_180 rfl ?_
                        refine Jz_iast (r := (0, 35)) he172 jEq.rf hW id dX7_countWays_182 hAF31n81 rfl rfl (by omega) (by omega) (by omega) (by omega) (fun V182 G182 hW hx182 hA182 hp182 ho182 => ?_)
                        obtain ⟨hN182, hv182⟩ := WT_rngI (r := (0, 35)) hW id rfl hA182
                        clear hN182
                        have he := he.trans (hx182.sub (jsub_of rfl))
                        have hkp := hkp.trans (jkc.of hx182 (jnot_of rfl))
                        have ha0 := ha0.mono hx182.1
                        have hb_rh := hb_rh.mono hx182.1
                        have hb_wb := hb_wb.mono hx182.1
                        have hb25t30 := hb25t30.mono hx182.1
                        have hb61 := hb61.mono hx182.1
                        have hb75 := hb75.mono hx182.1
                        have hOgs81a0 := hx182.2 _ _ hOgs81a0 (jnot_of rfl)
                        have hKgs81a0 := hKgs81a0.mono hx182.1
                        have hAF44n81 := hx182.2 _ _ hAF44n81 (jnot_of rfl)
                        have hAF30n81 := hx182.2 _ _ hAF30n81 (jnot_of rfl)
                        have ha_H43 := hx182.2 _ _ ha_H43 (jnot_of rfl)
                        have hA94 := hx182.2 _ _ hA94 (jnot_of rfl)
                        refine J_aload_n dX7_countWays_183 rfl ?_
                        refine J_get jf_X7_86 dX7_countWays_184 hOgs81a0 hFgs81a0_30 ?_
                        refine J_iload dX7_countWays_187 rfl ?_
                        refine Jz_iconst 1 dX7_countWays_189 (by decide) (fun y189 he189 => ?_)
                        refine Jz_zast (r := (0, 1)) jEq.rf he189 hW id dX7_countWays_190 hAF44n81 rfl rfl (by omega) (by omega) (by omega) (by omega) (fun _ h => vp_nar_b (by omega) (by omega)) (fun V190 G190 hW hx190 hA190 hp190 ho190 => ?_)
                        obtain ⟨hN190, hv190⟩ := WT_rngI (r := (0, 1)) hW id rfl hA190
                        clear hN190
                        have he := he.trans (hx190.sub (jsub_of rfl))
                        have hkp := hkp.trans (jkc.of hx190 (jnot_of rfl))
                        have ha0 := ha0.mono hx190.1
                        have hb_rh := hb_rh.mono hx190.1
                        have hb_wb := hb_wb.mono hx190.1
                        have hb25t30 := hb25t30.mono hx190.1
                        have hb61 := hb61.mono hx190.1
                        have hb75 := hb75.mono hx190.1
                        have hOgs81a0 := hx190.2 _ _ hOgs81a0 (jnot_of rfl)
                        have hKgs81a0 := hKgs81a0.mono hx190.1
                        have hAF30n81 := hx190.2 _ _ hAF30n81 (jnot_of rfl)
                        have ha_H43 := hx190.2 _ _ ha_H43 (jnot_of rfl)
                        have hA94 := hx190.2 _ _ hA94 (jnot_of rfl)
                        have hA182 := hx190.2 _ _ hA182 (jnot_of rfl)
                        refine J_aload_n dX7_countWays_191 rfl ?_
                        refine J_get jf_X7_92 dX7_countWays_192 hOgs81a0 hFgs81a0_32 ?_
                        refine J_iload_n dX7_countWays_195 rfl ?_
                        refine Jz_iconst (-1) dX7_countWays_196 (by decide) (fun y196 he196 => ?_)
                        refine Jz_iast (r := ((-1), 4)) he172 he196 hW id dX7_countWays_197 hA94 rfl rfl (by omega) (by omega) (by omega) (by omega) (fun V197 G197 hW hx197 hA197 hp197 ho197 => ?_)
                        obtain ⟨hN197, hv197⟩ := WT_rngI (r := ((-1), 4)) hW id rfl hA197
                        clear hN197
                        have he := he.trans (hx197.sub (jsub_of rfl))
                        have hkp := hkp.trans (jkc.of hx197 (jnot_of rfl))
                        have ha0 := ha0.mono hx197.1
                        have hb_rh := hb_rh.mono hx197.1
                        have hb_wb := hb_wb.mono hx197.1
                        have hb25t30 := hb25t30.mono hx197.1
                        have hb61 := hb61.mono hx197.1
                        have hb75 := hb75.mono hx197.1
                        have hOgs81a0 := hx197.2 _ _ hOgs81a0 (jnot_of rfl)
                        have hKgs81a0 := hKgs81a0.mono hx197.1
                        have hAF30n81 := hx197.2 _ _ hAF30n81 (jnot_of rfl)
                        have ha_H43 := hx197.2 _ _ ha_H43 (jnot_of rfl)
                        have hA182 := hx197.2 _ _ hA182 (jnot_of rfl)
                        have hA190 := hx197.2 _ _ hA190 (jnot_of rfl)
                        refine J_iload dX7_countWays_198 rfl ?_
                        refine J_aload_n dX7_countWays_200 rfl ?_
                        refine J_get jf_X7_73 dX7_countWays_201 hOgs81a0 hFgs81a0_23 ?_
                        refine J_aload_n dX7_countWays_204 rfl ?_
                        refine J_get jf_X7_77 dX7_countWays_205 hOgs81a0 hFgs81a0_24 ?_
                        refine Jz_imul jEq.rf jEq.rf dX7_countWays_208 (by omega) (by omega) (fun y208 he208 => ?_)
                        refine Jz_iconst 1 dX7_countWays_209 (by decide) (fun y209 he209 => ?_)
                        refine Jz_isub he208 he209 dX7_countWays_210 (by omega) (by omega) (fun y210 he210 => ?_)
                        refine Jz_icmp_ne (tgt := 245) jEq.rf he210 dX7_countWays_211 (by decide) (fun c211 => ?_) (fun c211 => ?_)
                        · refine J_goto (tgt := 81) dX7_countWays_245 (by decide) ?_
                          have hm0 : (F32n81 i2n81.toInt.toNat).toInt = y91.toInt := by rw [hf91]
                          have hm1 : (G197 (i2n81.toInt + 1).toNat).toInt = -1 := by rw [hp197, he196.eq]
                          have hup := jcn_up (c := 0) (show (F44n81 y136.toInt.toNat).toInt = 0 by rw [hf153]; exact c154) (by rw [hp190, he189.eq]; decide) ho190 36 (by omega)
                          have hgl := jgoal (p := y136.toInt) (w := wd.toInt) (h := hg.toInt) (by omega) (by omega) (by omega) (by omega)
                          have hqq : ∀ b : jW9, jwq b i1n81.toInt g28n81 F30n81 → jwq (jws (wd.toInt + 8 * hg.toInt).toNat NO (jpb9 wd.toInt.toNat y136.toInt.toNat :: jpL wd.toInt.toNat F31n81 (i2n81.toInt.toNat + 1)) b) (i1n81.toInt + 1) g28n81 F30n81 := fun b q => q.no (fun z => absurd (hgl.mpr z) (by omega))
                          refine J.mask [true, true, true, true, false] ?_
                          exact ih81 _ y157 y172 gs81a0 g28n81 G190 G182 G197 F30n81 hW he ha0 hb_rh hb_wb hb25t30 hb61 hb75 hkp hOgs81a0 hFgs81a0_28 hFgs81a0_27 hFgs81a0_26 hFgs81a0_23 hFgs81a0_24 hFgs81a0_25 hFgs81a0_29 hFgs81a0_30 hFgs81a0_31 hFgs81a0_32 hA190 hA182 hA197 hAF30n81 ha_H43 (by (try simp only [he157.eq, he172.eq, true_and, and_true]) <;> omega) (by (try simp only [he157.eq, he172.eq, true_and, and_true]) <;> omega) (fun k hk => by rw [he172.eq] at hk; exact (Nat.decEq k (i2n81.toInt + 1).toNat).byCases (fun hq => by rw [hq, hp197, he196.eq]; omega) (fun hq => by rw [ho197 k hq]; exact (Nat.decEq k i2n81.toInt.toNat).byCases (fun hq => by rw [hq, hp94, he93.eq]; omega) (fun hq => by rw [ho94 k hq]; exact htry k (by omega)))) (fun k hk => by rw [he172.eq] at hk; exact (Nat.decEq k (i2n81.toInt + 1).toNat).byCases (fun hq => by rw [hq, hp182, hp190, he189.eq]; omega) (fun hq => by rw [ho182 k hq]; have h1 := hway k (by omega); exact ⟨h1.1, h1.2.1, (Nat.decEq (F31n81 k).toInt.toNat y136.toInt.toNat).byCases (fun h9 => by rw [h9, hp190, he189.eq]; decide) (fun h9 => by rw [ho190 _ h9]; exact h1.2.2)⟩)) (fun i j h1 h2 => by rw [he172.eq] at h2; exact (Nat.decEq j (i2n81.toInt + 1).toNat).byCases (fun hq => by rw [hq, hp182, ho182 i (by omega)]; intro h9; have h3 := (hway i (by omega)).2.2; rw [h9, hf153] at h3; exact h3 c154) (fun hq => by rw [ho182 j hq, ho182 i (by omega)]; exact hdis i j h1 (by omega))) (by (try simp only [he157.eq, he172.eq, true_and, and_true]) <;> omega) (fun k hk => by rw [he172.eq] at hk; exact (Nat.decEq k (i2n81.toInt + 1).toNat).byCases (fun hq => by rw [hq, hp182]; omega) (fun hq => by rw [ho182 k hq]; exact hwA k (by omega))) (by rw [he172.eq]; exact hgn.down (y := y136) (by omega) (by omega) (by omega) (by omega) hp182 ho182 (by rw [hp190, he189.eq]; decide) ho190) (by rw [he172.eq, he157.eq]; exact hst.down (m := (jpb9 wd.toInt.toNat y136.toInt.toNat :: jpL wd.toInt.toNat F31n81 (i2n81.toInt.toNat + 1))) (by omega) (by omega) (by omega) (by rw [ho197 _ (by omega)]; exact (by have q := congrArg Int32.toInt hp94; have q9 := he93.eq; omega)) (fun i hi => by rw [ho197 _ (by omega), ho94 _ (by omega)]) (by rw [show i2n81.toInt.toNat + 1 = (i2n81.toInt + 1).toNat by omega, hp197]; exact he196.eq) hyc (by omega) (fun i hi => ho182 i (by omega)) (by show jpb9 _ _ :: jpL _ _ _ = _; rw [show i2n81.toInt.toNat + 1 = (i2n81.toInt + 1).toNat by omega, hp182, jpL_congr (W' := F31n81) _ (fun i hi => ho182 i (by omega))]) hqq) (by (try simp only [he157.eq, he172.eq, true_and, and_true]) <;> omega)
                        · refine J_aload_n dX7_countWays_214 rfl ?_
                          refine J_get jf_X7_83 dX7_countWays_215 hOgs81a0 hFgs81a0_29 ?_
                          refine J_iload_n dX7_countWays_218 rfl ?_
                          refine J_dup2 dX7_countWays_219 rfl rfl ?_
                          refine Jz_iald (r := ((-2147483648), 2147483647)) he172 dX7_countWays_220 hAF30n81 rfl hvF30n81 (by omega) (by omega) (fun y220 hf220 hl220 hh220 => ?_)
                          dsimp only at hl220 hh220
                          clear hl220 hh220
                          have hwl := hnum.2.2.2 (i2n81.toInt + 1).toNat (by omega)
                          have hm220 : (F30n81 (i2n81.toInt + 1).toNat).toInt = y220.toInt := by rw [hf220]
                          refine Jz_iconst 1 dX7_countWays_221 (by decide) (fun y221 he221 => ?_)
                          refine Jz_iadd jEq.rf he221 dX7_countWays_222 (by omega) (by omega) (fun y222 he222 => ?_)
                          refine Jz_iast (r := ((-2147483648), 2147483647)) he172 he222 hW id dX7_countWays_223 hAF30n81 rfl rfl (by omega) (by omega) (by omega) (by omega) (fun V223 G223 hW hx223 hA223 hp223 ho223 => ?_)
                          obtain ⟨hN223, hv223⟩ := WT_rngI (r := ((-2147483648), 2147483647)) hW id rfl hA223
                          clear hN223
                          have he := he.trans (hx223.sub (jsub_of rfl))
                          have hkp := hkp.trans (jkc.of hx223 (jnot_of rfl))
                          have ha0 := ha0.mono hx223.1
                          have hb_rh := hb_rh.mono hx223.1
                          have hb_wb := hb_wb.mono hx223.1
                          have hb25t30 := hb25t30.mono hx223.1
                          have hb61 := hb61.mono hx223.1
                          have hb75 := hb75.mono hx223.1
                          have hOgs81a0 := hx223.2 _ _ hOgs81a0 (jnot_of rfl)
                          have hKgs81a0 := hKgs81a0.mono hx223.1
                          have ha_H43 := hx223.2 _ _ ha_H43 (jnot_of rfl)
                          have hA182 := hx223.2 _ _ hA182 (jnot_of rfl)
                          have hA190 := hx223.2 _ _ hA190 (jnot_of rfl)
                          have hA197 := hx223.2 _ _ hA197 (jnot_of rfl)
                          refine J_aload_n dX7_countWays_224 rfl ?_
                          refine J_dup dX7_countWays_225 rfl ?_
                          refine J_get jf_X7_221 dX7_countWays_226 hOgs81a0 hFgs81a0_28 ?_
                          refine J_iload_n dX7_countWays_229 rfl ?_
                          refine Jz_iconst 1 dX7_countWays_230 (by decide) (fun y230 he230 => ?_)
                          refine Jz_iadd he172 he230 dX7_countWays_231 (by omega) (by omega) (fun y231 he231 => ?_)
                          refine J_iload_n dX7_countWays_232 rfl ?_
                          have K241 : ∀ (t0k241 : Int32), ((t0k241.toInt = 1 ∧ (i2n81.toInt + 1) + 1 = (NO : Int)) ∨ (t0k241.toInt = 0 ∧ ¬ (i2n81.toInt + 1) + 1 = (NO : Int))) → J tS mX7_countWays d 241 [some (.ref a0), some (.int y157), some (.int y172), some (.int y56), some (.int y136)] [.int t0k241, .int g28n81, .ref a0] V223 0 0 (fun r V => (jPost [.inr 5, .inl 30, .inl 44, .inl 31, .inl 32] V0 rV) r V ∧ (∃ (WB2 : Nat → Int32) (cv2 sv2 fv2 : Int32), V wb = some (.inl (30, 36, .inl WB2)) ∧ jfI V a0 5 26 cv2 ∧ jfI V a0 5 27 sv2 ∧ jfI V a0 5 28 fv2 ∧ jrd9 op (wd.toInt + 8 * hg.toInt).toNat NO sv2 fv2 WB2) ∧ jkc 5 [0, 23, 24] V0 V ∧ (∃ wd2 : Int32, jfI V a0 5 23 wd2 ∧ (wd2.toInt = wd.toInt)) ∧ (∃ hg2 : Int32, jfI V a0 5 24 hg2 ∧ (hg2.toInt = hg.toInt))) := by
                            intro  t0k241     hk241_0
                            refine Jz_iadd jEq.rf jEq.rf dX7_countWays_241 (by omega) (by omega) (fun y241 he241 => ?_)
                            refine Jz_putI hOgs81a0 hW id rfl jf_X7_221 jt_X7_28 he241 dX7_countWays_242 (by omega) (by omega) (fun _ _ => ⟨rfl, rfl⟩) (fun V242 fs242 hW hx242 hO242 hS242 hT242 hB242 => ?_)
                            have hK242 : jokO _ (jFs 5) fs242 := hW _ _ id hO242
                            have hF242_27 := (hT242 27 (by decide)).trans hFgs81a0_27
                            have hF242_26 := (hT242 26 (by decide)).trans hFgs81a0_26
                            have hF242_23 := (hT242 23 (by decide)).trans hFgs81a0_23
                            have hF242_24 := (hT242 24 (by decide)).trans hFgs81a0_24
                            have hF242_25 := (hT242 25 (by decide)).trans hFgs81a0_25
                            have hF242_29 := (hT242 29 (by decide)).trans hFgs81a0_29
                            have hF242_30 := (hT242 30 (by decide)).trans hFgs81a0_30
                            have hF242_31 := (hT242 31 (by decide)).trans hFgs81a0_31
                            have hF242_32 := (hT242 32 (by decide)).trans hFgs81a0_32
                            have he := he.trans (hx242.sub (jsub_of rfl))
                            have hkp := hkp.trans (jkc.put hOgs81a0 hO242 hT242 hB242 (by decide))
                            have ha0 := ha0.mono hx242.1
                            have hb_rh := hb_rh.mono hx242.1
                            have hb_wb := hb_wb.mono hx242.1
                            have hb25t30 := hb25t30.mono hx242.1
                            have hb61 := hb61.mono hx242.1
                            have hb75 := hb75.mono hx242.1
                            have ha_H43 := hx242.2 _ _ ha_H43 (jnot_of rfl)
                            have hA182 := hx242.2 _ _ hA182 (jnot_of rfl)
                            have hA190 := hx242.2 _ _ hA190 (jnot_of rfl)
                            have hA197 := hx242.2 _ _ hA197 (jnot_of rfl)
                            have hA223 := hx242.2 _ _ hA223 (jnot_of rfl)
                            refine J_goto (tgt := 81) dX7_countWays_245 (by decide) ?_
                            have hm0 : (F32n81 i2n81.toInt.toNat).toInt = y91.toInt := by rw [hf91]
                            have hm1 : (G197 (i2n81.toInt + 1).toNat).toInt = -1 := by rw [hp197, he196.eq]
                            have hup := jcn_up (c := 0) (show (F44n81 y136.toInt.toNat).toInt = 0 by rw [hf153]; exact c154) (by rw [hp190, he189.eq]; decide) ho190 36 (by omega)
                            have hgl := jgoal (p := y136.toInt) (w := wd.toInt) (h := hg.toInt) (by omega) (by omega) (by omega) (by omega)
                            have hqq : ∀ b : jW9, jwq b i1n81.toInt g28n81 F30n81 → jwq (jws (wd.toInt + 8 * hg.toInt).toNat NO (jpb9 wd.toInt.toNat y136.toInt.toNat :: jpL wd.toInt.toNat F31n81 (i2n81.toInt.toNat + 1)) b) (i1n81.toInt + 1) y241 G223 := fun b q => q.yes (j := (i2n81.toInt + 1).toNat) (hgl.mp (by omega)) (by rw [List.length_cons, jpL_len]; omega) (by omega) (by rw [List.length_cons, jpL_len, he241.eq]; rcases hk241_0 with ⟨w1, w2⟩ | ⟨w1, w2⟩; exact Or.inl ⟨by omega, by omega⟩; exact Or.inr ⟨by omega, by omega⟩) (by rw [hp223, he222.eq, hf220]) ho223
                            refine J.mask [true, true, true, true, false] ?_
                            exact ih81 _ y157 y172 fs242 y241 G190 G182 G197 G223 hW he ha0 hb_rh hb_wb hb25t30 hb61 hb75 hkp hO242 hS242 hF242_27 hF242_26 hF242_23 hF242_24 hF242_25 hF242_29 hF242_30 hF242_31 hF242_32 hA190 hA182 hA197 hA223 ha_H43 (by (try simp only [he157.eq, he172.eq, he241.eq, true_and, and_true]) <;> omega) (by (try simp only [he157.eq, he172.eq, he241.eq, true_and, and_true]) <;> omega) (fun k hk => by rw [he172.eq] at hk; exact (Nat.decEq k (i2n81.toInt + 1).toNat).byCases (fun hq => by rw [hq, hp197, he196.eq]; omega) (fun hq => by rw [ho197 k hq]; exact (Nat.decEq k i2n81.toInt.toNat).byCases (fun hq => by rw [hq, hp94, he93.eq]; omega) (fun hq => by rw [ho94 k hq]; exact htry k (by omega)))) (fun k hk => by rw [he172.eq] at hk; exact (Nat.decEq k (i2n81.toInt + 1).toNat).byCases (fun hq => by rw [hq, hp182, hp190, he189.eq]; omega) (fun hq => by rw [ho182 k hq]; have h1 := hway k (by omega); exact ⟨h1.1, h1.2.1, (Nat.decEq (F31n81 k).toInt.toNat y136.toInt.toNat).byCases (fun h9 => by rw [h9, hp190, he189.eq]; decide) (fun h9 => by rw [ho190 _ h9]; exact h1.2.2)⟩)) (fun i j h1 h2 => by rw [he172.eq] at h2; exact (Nat.decEq j (i2n81.toInt + 1).toNat).byCases (fun hq => by rw [hq, hp182, ho182 i (by omega)]; intro h9; have h3 := (hway i (by omega)).2.2; rw [h9, hf153] at h3; exact h3 c154) (fun hq => by rw [ho182 j hq, ho182 i (by omega)]; exact hdis i j h1 (by omega))) (by (try simp only [he157.eq, he172.eq, he241.eq, true_and, and_true]) <;> omega) (fun k hk => by rw [he172.eq] at hk; exact (Nat.decEq k (i2n81.toInt + 1).toNat).byCases (fun hq => by rw [hq, hp182]; omega) (fun hq => by rw [ho182 k hq]; exact hwA k (by omega))) (by rw [he172.eq]; exact hgn.down (y := y136) (by omega) (by omega) (by omega) (by omega) hp182 ho182 (by rw [hp190, he189.eq]; decide) ho190) (by rw [he172.eq, he157.eq]; exact hst.down (m := (jpb9 wd.toInt.toNat y136.toInt.toNat :: jpL wd.toInt.toNat F31n81 (i2n81.toInt.toNat + 1))) (by omega) (by omega) (by omega) (by rw [ho197 _ (by omega)]; exact (by have q := congrArg Int32.toInt hp94; have q9 := he93.eq; omega)) (fun i hi => by rw [ho197 _ (by omega), ho94 _ (by omega)]) (by rw [show i2n81.toInt.toNat + 1 = (i2n81.toInt + 1).toNat by omega, hp197]; exact he196.eq) hyc (by omega) (fun i hi => ho182 i (by omega)) (by show jpb9 _ _ :: jpL _ _ _ = _; rw [show i2n81.toInt.toNat + 1 = (i2n81.toInt + 1).toNat by omega, hp182, jpL_congr (W' := F31n81) _ (fun i hi => ho182 i (by omega))]) hqq) (by (try simp only [he157.eq, he172.eq, he241.eq, true_and, and_true]) <;> omega)
                          refine Jz_icmp_ne (tgt := 240) he231 jEq.rf dX7_countWays_233 (by decide) (fun c233 => ?_) (fun c233 => ?_)
                          · refine Jz_iconst 0 dX7_countWays_240 (by decide) (fun y240 he240 => ?_)
                            exact K241  y240  (by (try simp only [he240.eq, true_and, and_true]) <;> omega)
                          · refine Jz_iconst 1 dX7_countWays_236 (by decide) (fun y236 he236 => ?_)
                            refine J_goto (tgt := 241) dX7_countWays_237 (by decide) ?_
                            exact K241  y236  (by (try simp only [he236.eq, true_and, and_true]) <;> omega)
                      · refine J_aload_n dX7_countWays_166 rfl ?_
                        refine Jz_iconst 1 dX7_countWays_167 (by decide) (fun y167 he167 => ?_)
                        refine Jz_putI hOgs81a0 hW id rfl jf_X7_218 jt_X7_27 he167 dX7_countWays_168 (by omega) (by omega) (fun _ h => ⟨nar_b (by omega) (by omega), fit_b (by omega) (by omega)⟩) (fun V168 fs168 hW hx168 hO168 hS168 hT168 hB168 => ?_)
                        have hK168 : jokO _ (jFs 5) fs168 := hW _ _ id hO168
                        have hF168_28 := (hT168 28 (by decide)).trans hFgs81a0_28
                        have hF168_26 := (hT168 26 (by decide)).trans hFgs81a0_26
                        have hF168_23 := (hT168 23 (by decide)).trans hFgs81a0_23
                        have hF168_24 := (hT168 24 (by decide)).trans hFgs81a0_24
                        have hF168_25 := (hT168 25 (by decide)).trans hFgs81a0_25
                        have hF168_29 := (hT168 29 (by decide)).trans hFgs81a0_29
                        have hF168_30 := (hT168 30 (by decide)).trans hFgs81a0_30
                        have hF168_31 := (hT168 31 (by decide)).trans hFgs81a0_31
                        have hF168_32 := (hT168 32 (by decide)).trans hFgs81a0_32
                        have he := he.trans (hx168.sub (jsub_of rfl))
                        have hkp := hkp.trans (jkc.put hOgs81a0 hO168 hT168 hB168 (by decide))
                        have ha0 := ha0.mono hx168.1
                        have hb_rh := hb_rh.mono hx168.1
                        have hb_wb := hb_wb.mono hx168.1
                        have hb25t30 := hb25t30.mono hx168.1
                        have hb61 := hb61.mono hx168.1
                        have hb75 := hb75.mono hx168.1
                        have hAF44n81 := hx168.2 _ _ hAF44n81 (jnot_of rfl)
                        have hAF31n81 := hx168.2 _ _ hAF31n81 (jnot_of rfl)
                        have hAF30n81 := hx168.2 _ _ hAF30n81 (jnot_of rfl)
                        have ha_H43 := hx168.2 _ _ ha_H43 (jnot_of rfl)
                        have hA94 := hx168.2 _ _ hA94 (jnot_of rfl)
                        exact J_ret (r := none) dX7_countWays_171 ⟨rfl, rfl⟩ (⟨⟨hW, he, rfl⟩, ⟨F30n81, y9, y167, g28n81, hAF30n81, ⟨_, hO168, hF168_26⟩, ⟨_, hO168, hS168⟩, ⟨_, hO168, hF168_28⟩, Or.inl ⟨by rw [he167.eq]; decide, by have q := hst.spent (by omega) (fun i hi => (htry i (by omega)).1) (by omega) hyc (by omega); omega⟩⟩, hkp, ⟨_, ⟨_, hO168, hF168_23⟩, (by omega)⟩, ⟨_, ⟨_, hO168, hF168_24⟩, (by omega)⟩⟩)
                · refine J_aload_n dX7_countWays_105 rfl ?_
                  refine J_get jf_X7_86 dX7_countWays_106 hOgs81a0 hFgs81a0_30 ?_
                  refine J_aload_n dX7_countWays_109 rfl ?_
                  refine J_get jf_X7_89 dX7_countWays_110 hOgs81a0 hFgs81a0_31 ?_
                  refine J_iload_n dX7_countWays_113 rfl ?_
                  refine Jz_iald (r := (0, 35)) jEq.rf dX7_countWays_114 hAF31n81 rfl hvF31n81 (by omega) (by omega) (fun y114 hf114 hl114 hh114 => ?_)
                  dsimp only at hl114 hh114
                  have hb114 := hway i2n81.toInt.toNat (by omega)
                  rw [hf114] at hb114
                  refine Jz_iconst 0 dX7_countWays_115 (by decide) (fun y115 he115 => ?_)
                  refine Jz_zast (r := (0, 1)) jEq.rf he115 hW id dX7_countWays_116 hAF44n81 rfl rfl (by omega) (by omega) (by omega) (by omega) (fun _ h => vp_nar_b (by omega) (by omega)) (fun V116 G116 hW hx116 hA116 hp116 ho116 => ?_)
                  obtain ⟨hN116, hv116⟩ := WT_rngI (r := (0, 1)) hW id rfl hA116
                  clear hN116
                  have he := he.trans (hx116.sub (jsub_of rfl))
                  have hkp := hkp.trans (jkc.of hx116 (jnot_of rfl))
                  have ha0 := ha0.mono hx116.1
                  have hb_rh := hb_rh.mono hx116.1
                  have hb_wb := hb_wb.mono hx116.1
                  have hb25t30 := hb25t30.mono hx116.1
                  have hb61 := hb61.mono hx116.1
                  have hb75 := hb75.mono hx116.1
                  have hOgs81a0 := hx116.2 _ _ hOgs81a0 (jnot_of rfl)
                  have hKgs81a0 := hKgs81a0.mono hx116.1
                  have hAF31n81 := hx116.2 _ _ hAF31n81 (jnot_of rfl)
                  have hAF30n81 := hx116.2 _ _ hAF30n81 (jnot_of rfl)
                  have ha_H43 := hx116.2 _ _ ha_H43 (jnot_of rfl)
                  have hA94 := hx116.2 _ _ hA94 (jnot_of rfl)
                  refine Jz_iinc (-1) dX7_countWays_117 rfl rfl (by decide) jEq.rf (by decide) (by omega) (by omega) (fun y117 he117 => ?_)
                  refine J_goto (tgt := 81) dX7_countWays_120 (by decide) ?_
                  have hm0 : (F32n81 i2n81.toInt.toNat).toInt = y91.toInt := by rw [hf91]
                  have hm1 : -1 ≤ (G94 (i2n81.toInt + (-1)).toNat).toInt := (Int.decLt i2n81.toInt 1).byCases (fun hz => by rw [show (i2n81.toInt + (-1)).toNat = i2n81.toInt.toNat by omega, hp94, he93.eq]; omega) (fun hz => by rw [ho94 _ (by omega)]; exact (htry _ (by omega)).1)
                  have hdn := jcn_dn (c := 0) hb114.2.2 (by rw [hp116, he115.eq]) ho116 (n := 36) (by omega)
                  refine J.mask [true, true, true, true, false] ?_
                  exact ih81 _ i1n81 y117 gs81a0 g28n81 G116 F31n81 G94 F30n81 hW he ha0 hb_rh hb_wb hb25t30 hb61 hb75 hkp hOgs81a0 hFgs81a0_28 hFgs81a0_27 hFgs81a0_26 hFgs81a0_23 hFgs81a0_24 hFgs81a0_25 hFgs81a0_29 hFgs81a0_30 hFgs81a0_31 hFgs81a0_32 hA116 hAF31n81 hA94 hAF30n81 ha_H43 (by (try simp only [he117.eq, true_and, and_true]) <;> omega) (by (try simp only [he117.eq, true_and, and_true]) <;> omega) (fun k hk => by rw [he117.eq] at hk; rw [ho94 k (by omega)]; exact htry k (by omega)) (fun k hk => by rw [he117.eq] at hk; have h1 := hway k (by omega); have h2 := hdis k i2n81.toInt.toNat (by omega) (by omega); rw [hf114] at h2; rw [ho116 _ (by omega)]; exact h1) (fun i j h1 h2 => by rw [he117.eq] at h2; exact hdis i j h1 (by omega)) (by (try simp only [he117.eq, true_and, and_true]) <;> omega) (fun k hk => by rw [he117.eq] at hk; exact hwA k (by omega)) (by rw [he117.eq]; exact hgn.up (k := y114.toInt.toNat) (by omega) (by omega) (by omega) (by rw [hf114]) (fun i hi e => hdis i i2n81.toInt.toNat (by omega) (by omega) (by have q1 := hway i (by omega); have q2 := hway i2n81.toInt.toNat (by omega); omega)) (by rw [hp116]; exact he115.eq) ho116) (by rw [he117.eq]; exact hst.out (by omega) (by have q := congrArg Int32.toInt hp94; have q9 := he93.eq; omega) ho94) (by (try simp only [he117.eq, true_and, and_true]) <;> omega)
          refine J.mask [true, true, true, true, false] ?_
          exact L81 _ _ y51 y53 fs20 y19 G73 G66 G80 F30n25 hW he ha0 hb_rh hb_wb hb25t30 hb61 hb75 hkp hO20 hS20 hF20_27 hF20_26 hF20_23 hF20_24 hF20_25 hF20_29 hF25t30 hF61 hF75 hA73 hA66 hA80 hAF30n25 ha_H43 (by (try simp only [he51.eq, he53.eq, he19.eq, true_and, and_true]) <;> omega) (by (try simp only [he51.eq, he53.eq, he19.eq, true_and, and_true]) <;> omega) (fun k hk => by rw [he53.eq] at hk; rw [show k = Int.toNat 0 by omega, hp80, he79.eq]; omega) (fun k hk => by rw [he53.eq] at hk; rw [show k = Int.toNat 0 by omega, hp66, he65.eq, hp73, he72.eq]; omega) (fun i j h1 h2 => by rw [he53.eq] at h2; omega) (by rw [he53.eq, jcn_one (n := 36) (show ¬ (G73 (Int.toNat 0)).toInt = 0 by rw [hp73, he72.eq]; decide) (fun k h1 h2 => by rw [ho73 k (by show k ≠ 0; omega)]; exact hz k (by omega)) (by omega)]; rfl) (fun k hk => by rw [he53.eq] at hk; rw [show k = Int.toNat 0 by omega, hp66, he65.eq]; omega) (by rw [he53.eq]; exact jgn.init (by omega) (by omega) ((congrArg Int32.toInt hp66).trans he65.eq) (fun z => absurd ((congrArg Int32.toInt hp73).symm.trans z) (by rw [he72.eq]; decide)) (fun q h1 h2 => by rw [ho73 q (fun c => h1 c)]; exact hz q (by omega))) (by rw [he51.eq, he53.eq]; exact jwS.init ((congrArg Int32.toInt hp66).trans he65.eq) ((congrArg Int32.toInt hp80).trans he79.eq) he19.eq (fun k hk => hw0 k (by omega))) (Nat.lt_succ_self _)
        · refine J_aload_n dX7_countWays_31 rfl ?_
          refine J_get jf_X7_83 dX7_countWays_32 hO20 hF20_29 ?_
          refine J_iload_n dX7_countWays_35 rfl ?_
          refine Jz_iconst 0 dX7_countWays_36 (by decide) (fun y36 he36 => ?_)
          refine Jz_iast (r := ((-2147483648), 2147483647)) jEq.rf he36 hW id dX7_countWays_37 hAF30n25 rfl rfl (by omega) (by omega) (by omega) (by omega) (fun V37 G37 hW hx37 hA37 hp37 ho37 => ?_)
          obtain ⟨hN37, hv37⟩ := WT_rngI (r := ((-2147483648), 2147483647)) hW id rfl hA37
          clear hN37
          have he := he.trans (hx37.sub (jsub_of rfl))
          have hkp := hkp.trans (jkc.of hx37 (jnot_of rfl))
          have ha0 := ha0.mono hx37.1
          have hb_rh := hb_rh.mono hx37.1
          have hb_wb := hb_wb.mono hx37.1
          have hb25t30 := hb25t30.mono hx37.1
          have hO20 := hx37.2 _ _ hO20 (jnot_of rfl)
          have hK20 := hK20.mono hx37.1
          have hAF44n25 := hx37.2 _ _ hAF44n25 (jnot_of rfl)
          have ha_H43 := hx37.2 _ _ ha_H43 (jnot_of rfl)
          refine J_aload_n dX7_countWays_38 rfl ?_
          refine J_get jf_X7_86 dX7_countWays_39 hO20 hF25t30 ?_
          refine J_iload_n dX7_countWays_42 rfl ?_
          refine Jz_iconst 0 dX7_countWays_43 (by decide) (fun y43 he43 => ?_)
          refine Jz_zast (r := (0, 1)) jEq.rf he43 hW id dX7_countWays_44 hAF44n25 rfl rfl (by omega) (by omega) (by omega) (by omega) (fun _ h => vp_nar_b (by omega) (by omega)) (fun V44 G44 hW hx44 hA44 hp44 ho44 => ?_)
          obtain ⟨hN44, hv44⟩ := WT_rngI (r := (0, 1)) hW id rfl hA44
          clear hN44
          have he := he.trans (hx44.sub (jsub_of rfl))
          have hkp := hkp.trans (jkc.of hx44 (jnot_of rfl))
          have ha0 := ha0.mono hx44.1
          have hb_rh := hb_rh.mono hx44.1
          have hb_wb := hb_wb.mono hx44.1
          have hb25t30 := hb25t30.mono hx44.1
          have hO20 := hx44.2 _ _ hO20 (jnot_of rfl)
          have hK20 := hK20.mono hx44.1
          have ha_H43 := hx44.2 _ _ ha_H43 (jnot_of rfl)
          have hA37 := hx44.2 _ _ hA37 (jnot_of rfl)
          refine Jz_iinc 1 dX7_countWays_45 rfl rfl (by decide) jEq.rf (by decide) (by omega) (by omega) (fun y45 he45 => ?_)
          refine J_goto (tgt := 25) dX7_countWays_48 (by decide) ?_
          refine J.mask [true, true, false, false, false] ?_
          exact ih25 _ y45 G44 G37 hW he ha0 hb_rh hb_wb hb25t30 hkp hO20 hK20 hA44 hA37 ha_H43 (by (try simp only [he45.eq, true_and, and_true]) <;> omega) (fun k hk => by rw [he45.eq] at hk; exact (Nat.decEq k i1n25.toInt.toNat).byCases (fun hq => by rw [hq, hp44, he43.eq]) (fun hq => by rw [ho44 k hq]; exact hz k (by omega))) (fun k hk => by rw [he45.eq] at hk; exact (Nat.decEq k i1n25.toInt.toNat).byCases (fun hq => by rw [hq, hp37, he36.eq]) (fun hq => by rw [ho37 k hq]; exact hw0 k (by omega))) (by (try simp only [he45.eq, true_and, and_true]) <;> omega)
    refine J.mask [true, true, false, false, false] ?_
    exact L25 _ _ y23 f25tb25t30 WB hW he ha0 hb_rh hb_wb hb25t30 hkp hO20 hK20 hA25tb25t30 ha_WB ha_H43 (by (try simp only [he23.eq, true_and, and_true]) <;> omega) (fun k hk => by rw [he23.eq] at hk; omega) (fun k hk => by rw [he23.eq] at hk; omega) (Nat.lt_succ_self _)
  · exact J_ret (r := none) dX7_countWays_7 ⟨rfl, rfl⟩ (⟨⟨hW, he, rfl⟩, ⟨WB, cv, sv, fv, ha_WB, ⟨_, hO_a0, hF_cv⟩, ⟨_, hO_a0, hF_sv⟩, ⟨_, hO_a0, hF_fv⟩, hp6 (by omega)⟩, hkp, ⟨_, ⟨_, hO_a0, hF_wd⟩, (by omega)⟩, ⟨_, ⟨_, hO_a0, hF_hg⟩, (by omega)⟩⟩)
