set_option maxRecDepth 100000 in
set_option maxHeartbeats 8000000 in
theorem w_X7_ways_z {tS : jTS} (d : Nat) (V0 : jH) (a0 : Nat) (x1 : Int32) (wd : Int32) (hg : Int32) (cv : Int32) (sv : Int32) (fv : Int32) (rh : Nat) (wb : Nat) (op : Nat → Bool) (NO : Nat) (H43 : Nat → Int32) (WB : Nat → Int32) (hd : 3 ≤ d) (hW : WT V0) (ha0 : jis V0 (.inr 5) a0) (hl1 : 0 ≤ x1.toInt) (hh1 : x1.toInt ≤ 1) (hf_wd : jfI V0 a0 5 23 wd) (hf_hg : jfI V0 a0 5 24 hg) (hf_cv : jfI V0 a0 5 26 cv) (hf_sv : jfI V0 a0 5 27 sv) (hf_fv : jfI V0 a0 5 28 fv) (hr_rh : jfR V0 a0 5 25 rh) (hr_wb : jfR V0 a0 5 29 wb) (ha_H43 : V0 rh = some (.inl (43, 36, .inl H43))) (ha_WB : V0 wb = some (.inl (30, 36, .inl WB))) (hp0 : 2 ≤ wd.toInt) (hp1 : wd.toInt ≤ 6) (hp2 : 2 ≤ hg.toInt) (hp3 : hg.toInt ≤ 6) (hp4 : jopr op wd.toInt.toNat hg.toInt.toNat H43) (hp5 : jcn 1 H43 (wd.toInt * hg.toInt).toNat = NO) (hp6 : jrm9 op (wd.toInt + 8 * hg.toInt).toNat NO cv sv fv WB) (hp7 : jsum (fun n => (op n).toNat) 64 = NO) (hp8 : NO ≤ 36) (hp9 : ∀ n : Nat, op n = true → n < 64) (hp10 : op 9 = true) : jTot tS mX7_ways d [.ref a0, .int x1] V0 0 0 (fun r V => (jPost [.inr 5, .inl 30, .inl 44, .inl 31, .inl 32] V0 (fun r _ => ∃ y : Int32, r = some (.int y) ∧ ((-2147483648) ≤ y.toInt) ∧ (y.toInt ≤ 2147483647) ∧ ((600000 < (jWY op (wd.toInt + 8 * hg.toInt).toNat NO).1 ∧ y.toInt = -5) ∨ ((jWY op (wd.toInt + 8 * hg.toInt).toNat NO).1 ≤ 600000 ∧ ((x1.toInt = 0 ∧ y.toInt = ((jWY op (wd.toInt + 8 * hg.toInt).toNat NO).2.2.1 : Int)) ∨ (¬ x1.toInt = 0 ∧ y.toInt = ((jWY op (wd.toInt + 8 * hg.toInt).toNat NO).2.2.2 : Int))))))) r V ∧ (∃ (WB2 : Nat → Int32) (cv2 sv2 fv2 : Int32), V wb = some (.inl (30, 36, .inl WB2)) ∧ jfI V a0 5 26 cv2 ∧ jfI V a0 5 27 sv2 ∧ jfI V a0 5 28 fv2 ∧ jrd9 op (wd.toInt + 8 * hg.toInt).toNat NO sv2 fv2 WB2) ∧ jkc 5 [0, 23, 24] V0 V) := by
  refine jTot.of_J [some (.ref a0), some (.int x1), none, none] moX7_ways (Nat.le_of_ble_eq_true rfl) rfl ?_
  have he : jeff [.inr 5, .inl 30, .inl 44, .inl 31, .inl 32] V0 V0 := jeff.refl _ _
  have hkp : jkc 5 [0, 23, 24] V0 V0 := jkc.rf
  obtain ⟨fs_a0, hO_a0, hK_a0⟩ := WT_obj hW id ha0
  have hF_wd := hf_wd.get hO_a0
  have hrwd : 2 ≤ wd.toInt ∧ wd.toInt ≤ 6 := jok_rngI hK_a0 rfl hF_wd
  have hF_hg := hf_hg.get hO_a0
  have hrhg : 2 ≤ hg.toInt ∧ hg.toInt ≤ 6 := jok_rngI hK_a0 rfl hF_hg
  have hF_cv := hf_cv.get hO_a0
  have hrcv : 0 ≤ cv.toInt ∧ cv.toInt ≤ 1 := jok_rngI hK_a0 rfl hF_cv
  have hF_sv := hf_sv.get hO_a0
  have hrsv : 0 ≤ sv.toInt ∧ sv.toInt ≤ 1 := jok_rngI hK_a0 rfl hF_sv
  have hF_fv := hf_fv.get hO_a0
  have hrfv : (-2147483648) ≤ fv.toInt ∧ fv.toInt ≤ 2147483647 := jok_rngI hK_a0 rfl hF_fv
  have hF_rh := hr_rh.get hO_a0
  obtain ⟨w_rh, hFq_rh, b_rh, hbq_rh, hb_rh⟩ := hK_a0.2 25 (.inr (some (.inl 43))) rfl
  cases hF_rh.symm.trans (hFq_rh.trans (congrArg some hbq_rh))
  have hF_wb := hr_wb.get hO_a0
  obtain ⟨w_wb, hFq_wb, b_wb, hbq_wb, hb_wb⟩ := hK_a0.2 29 (.inr (some (.inl 30))) rfl
  cases hF_wb.symm.trans (hFq_wb.trans (congrArg some hbq_wb))
  obtain ⟨hN_H43, hv_H43⟩ := WT_rngI (r := (0, 1)) hW id rfl ha_H43
  clear hN_H43
  obtain ⟨hN_WB, hv_WB⟩ := WT_rngI (r := ((-2147483648), 2147483647)) hW id rfl ha_WB
  clear hN_WB
  refine J_aload_n dX7_ways_0 rfl ?_
  refine Jw_callV0 (q9 := (RX7, TX7, 34)) moX7_countWays jw_ml_X7_230 jw_im_X7_countWays jw_se_X7_countWays ha0 rfl rfl dX7_ways_1 (w_X7_countWays_z (d - 1) _ a0 wd hg cv sv fv rh wb op NO H43 WB (by omega) hW  ha0 ⟨_, hO_a0, hF_wd⟩ ⟨_, hO_a0, hF_hg⟩ ⟨_, hO_a0, hF_cv⟩ ⟨_, hO_a0, hF_sv⟩ ⟨_, hO_a0, hF_fv⟩ ⟨_, hO_a0, hF_rh⟩ ⟨_, hO_a0, hF_wb⟩ ha_H43 ha_WB (by omega) (by omega) (by omega) (by omega) (by omega) (by omega) (by omega)) (by omega) (Nat.zero_le _) (Nat.zero_le _) (Nat.le_of_ble_eq_true rfl) (fun r1 V1 h1 => ?_)
  obtain ⟨h1, hX1_0, hX1_1, ⟨fv1_0, hfv1_0, hfp1_0⟩, ⟨fv1_1, hfv1_1, hfp1_1⟩⟩ := h1
  obtain ⟨hW, hx1, hr1⟩ := h1
  have he := he.trans (hx1.sub (jsub_of rfl))
  have hkp := hkp.trans hX1_1
  have ha0 := ha0.mono hx1.1
  have hb_rh := hb_rh.mono hx1.1
  have hb_wb := hb_wb.mono hx1.1
  obtain ⟨fs1a0, hOfs1a0, hRfs1a0⟩ := hx1.1.keep hO_a0
  have hKfs1a0 : jokO _ (jFs 5) fs1a0 := hW _ _ id hOfs1a0
  have hFfs1a0_25 := hRfs1a0 _ _ hF_rh
  have hFfs1a0_29 := hRfs1a0 _ _ hF_wb
  have ha_H43 := hx1.2 _ _ ha_H43 (jnot_of rfl)
  cases hr1
  have hFv1_0 := hfv1_0.get hOfs1a0
  have hsb1_0 : wd = fv1_0 := (jI_inj.mp hfp1_0).symm
  subst hsb1_0
  have hFv1_1 := hfv1_1.get hOfs1a0
  have hsb1_1 : hg = fv1_1 := (jI_inj.mp hfp1_1).symm
  subst hsb1_1
  obtain ⟨WB1, cv1, sv1, fv1, hWa1, hcf1, hsf1, hff1, hjd⟩ := id hX1_0
  have hFv126 := hcf1.get hOfs1a0
  have hFv127 := hsf1.get hOfs1a0
  have hFv128 := hff1.get hOfs1a0
  obtain ⟨hN_WB1, hv_WB1⟩ := WT_rngI (r := ((-2147483648), 2147483647)) hW id rfl hWa1
  clear hN_WB1
  refine J_aload_n dX7_ways_4 rfl ?_
  refine J_get jf_X7_218 dX7_ways_5 hOfs1a0 hFv127 ?_
  refine Jz_if_eq (tgt := 14) jEq.rf dX7_ways_8 (by decide) (fun c8 => ?_) (fun c8 => ?_)
  · obtain ⟨j1, j2, j3⟩ : (jWY op (wd.toInt + 8 * hg.toInt).toNat NO).1 ≤ 600000 ∧ fv1.toInt = ((jWY op (wd.toInt + 8 * hg.toInt).toNat NO).2.2.2 : Int) ∧ ∀ k : Nat, k < 36 → (WB1 k).toInt = ((jWY op (wd.toInt + 8 * hg.toInt).toNat NO).2.1 k : Int) := hjd.elim (fun q => absurd c8 q.1) (fun q => ⟨q.2.1, q.2.2.1, q.2.2.2⟩)
    have j4 : jsum (jWY op (wd.toInt + 8 * hg.toInt).toNat NO).2.1 36 = (jWY op (wd.toInt + 8 * hg.toInt).toNat NO).2.2.1 := jWY_sum hp9 hp8 (jli.one hp10 hp7)
    have j5 := jWY_all (op := op) (GL := (wd.toInt + 8 * hg.toInt).toNat) (NO := NO)
    refine Jz_iconst 0 dX7_ways_14 (by decide) (fun y14 he14 => ?_)
    refine J_istore_n dX7_ways_15 rfl (by decide) ?_
    refine Jz_iconst 0 dX7_ways_16 (by decide) (fun y16 he16 => ?_)
    refine J_istore_n dX7_ways_17 rfl (by decide) ?_
    have L18 : ∀ (N : Nat) (i2n18 : Int32) (i3n18 : Int32), (0 ≤ i3n18.toInt ∧ i3n18.toInt ≤ 36) → (i2n18.toInt = ((jsum (jWY op (wd.toInt + 8 * hg.toInt).toNat NO).2.1 i3n18.toInt.toNat : Nat) : Int)) → (300 - i3n18.toInt).toNat < N → J tS mX7_ways d 18 [some (.ref a0), some (.int x1), some (.int i2n18), some (.int i3n18)] [] V1 0 0 (fun r V => (jPost [.inr 5, .inl 30, .inl 44, .inl 31, .inl 32] V0 (fun r _ => ∃ y : Int32, r = some (.int y) ∧ ((-2147483648) ≤ y.toInt) ∧ (y.toInt ≤ 2147483647) ∧ ((600000 < (jWY op (wd.toInt + 8 * hg.toInt).toNat NO).1 ∧ y.toInt = -5) ∨ ((jWY op (wd.toInt + 8 * hg.toInt).toNat NO).1 ≤ 600000 ∧ ((x1.toInt = 0 ∧ y.toInt = ((jWY op (wd.toInt + 8 * hg.toInt).toNat NO).2.2.1 : Int)) ∨ (¬ x1.toInt = 0 ∧ y.toInt = ((jWY op (wd.toInt + 8 * hg.toInt).toNat NO).2.2.2 : Int))))))) r V ∧ (∃ (WB2 : Nat → Int32) (cv2 sv2 fv2 : Int32), V wb = some (.inl (30, 36, .inl WB2)) ∧ jfI V a0 5 26 cv2 ∧ jfI V a0 5 27 sv2 ∧ jfI V a0 5 28 fv2 ∧ jrd9 op (wd.toInt + 8 * hg.toInt).toNat NO sv2 fv2 WB2) ∧ jkc 5 [0, 23, 24] V0 V) := by
      intro N
      induction N with
      | zero => intro i2n18 i3n18  hi3 hsum hm; exact absurd hm (Nat.not_lt_zero _)
      | succ N ih =>
        intro i2n18 i3n18  hi3 hsum hm
        have ih18 := ih
        have hri3 := j_rng i3n18
        refine J_iload_n dX7_ways_18 rfl ?_
        refine Jz_bipush 36 dX7_ways_19 (by decide) (fun y19 he19 => ?_)
        refine Jz_icmp_ge (tgt := 39) jEq.rf he19 dX7_ways_21 (by decide) (fun c21 => ?_) (fun c21 => ?_)
        · refine J_iload_n dX7_ways_39 rfl ?_
          refine Jz_if_eq (tgt := 50) jEq.rf dX7_ways_40 (by decide) (fun c40 => ?_) (fun c40 => ?_)
          · refine J_iload_n dX7_ways_50 rfl ?_
            exact J_ret (r := some (.int _)) dX7_ways_51 ⟨rfl, _, rfl, rfl⟩ (⟨⟨hW, he, ⟨_, rfl, (j_rng _).1, (j_rng _).2, (by first | exact Or.inr ⟨j1, Or.inl ⟨by omega, by rw [hsum, show i3n18.toInt.toNat = 36 by omega, j4]⟩⟩ | exact Or.inr ⟨j1, Or.inr ⟨by omega, j2⟩⟩)⟩⟩, hX1_0, hkp⟩)
          · refine J_aload_n dX7_ways_43 rfl ?_
            refine J_get jf_X7_221 dX7_ways_44 hOfs1a0 hFv128 ?_
            refine J_goto (tgt := 51) dX7_ways_47 (by decide) ?_
            exact J_ret (r := some (.int _)) dX7_ways_51 ⟨rfl, _, rfl, rfl⟩ (⟨⟨hW, he, ⟨_, rfl, (j_rng _).1, (j_rng _).2, (by first | exact Or.inr ⟨j1, Or.inl ⟨by omega, by rw [hsum, show i3n18.toInt.toNat = 36 by omega, j4]⟩⟩ | exact Or.inr ⟨j1, Or.inr ⟨by omega, j2⟩⟩)⟩⟩, hX1_0, hkp⟩)
        · refine J_iload_n dX7_ways_24 rfl ?_
          refine J_aload_n dX7_ways_25 rfl ?_
          refine J_get jf_X7_83 dX7_ways_26 hOfs1a0 hFfs1a0_29 ?_
          refine J_iload_n dX7_ways_29 rfl ?_
          refine Jz_iald (r := ((-2147483648), 2147483647)) jEq.rf dX7_ways_30 hWa1 rfl hv_WB1 (by omega) (by omega) (fun y30 hf30 hl30 hh30 => ?_)
          dsimp only at hl30 hh30
          clear hl30 hh30
          have j6 := j3 i3n18.toInt.toNat (by omega)
          rw [hf30] at j6
          have j7 := jsum_mono (t := (jWY op (wd.toInt + 8 * hg.toInt).toNat NO).2.1) (n := i3n18.toInt.toNat + 1) (m := 36) (by omega)
          have j8 : jsum (jWY op (wd.toInt + 8 * hg.toInt).toNat NO).2.1 (i3n18.toInt.toNat + 1) = jsum (jWY op (wd.toInt + 8 * hg.toInt).toNat NO).2.1 i3n18.toInt.toNat + (jWY op (wd.toInt + 8 * hg.toInt).toNat NO).2.1 i3n18.toInt.toNat := rfl
          refine Jz_iadd jEq.rf jEq.rf dX7_ways_31 (by omega) (by omega) (fun y31 he31 => ?_)
          refine J_istore_n dX7_ways_32 rfl (by decide) ?_
          refine Jz_iinc 1 dX7_ways_33 rfl rfl (by decide) jEq.rf (by decide) (by omega) (by omega) (fun y33 he33 => ?_)
          refine J_goto (tgt := 18) dX7_ways_36 (by decide) ?_
          refine J.mask [true, true, true, true] ?_
          exact ih18  y31 y33  (by (try simp only [he31.eq, he33.eq, true_and, and_true]) <;> omega) (by rw [he31.eq, he33.eq, show (i3n18.toInt + 1).toNat = i3n18.toInt.toNat + 1 by omega, j8]; omega) (by (try simp only [he31.eq, he33.eq, true_and, and_true]) <;> omega)
    refine J.mask [true, true, true, true] ?_
    exact L18 _  y14 y16    (by (try simp only [he14.eq, he16.eq, true_and, and_true]) <;> omega) (by rw [he14.eq, he16.eq]; rfl) (Nat.lt_succ_self _)
  · have j1 : 600000 < (jWY op (wd.toInt + 8 * hg.toInt).toNat NO).1 := hjd.elim (fun q => q.2) (fun q => absurd q.1 c8)
    refine Jz_bipush (-5) dX7_ways_11 (by decide) (fun y11 he11 => ?_)
    exact J_ret (r := some (.int _)) dX7_ways_13 ⟨rfl, _, rfl, rfl⟩ (⟨⟨hW, he, ⟨_, rfl, (j_rng _).1, (j_rng _).2, (Or.inl ⟨j1, he11.eq⟩)⟩⟩, hX1_0, hkp⟩)
