set_option maxRecDepth 100000 in
set_option maxHeartbeats 8000000 in
theorem w_X7_waysOf_z {tS : jTS} (d : Nat) (V0 : jH) (a0 : Nat) (x1 : Int32) (wd : Int32) (hg : Int32) (cv : Int32) (sv : Int32) (fv : Int32) (rh : Nat) (wb : Nat) (op : Nat → Bool) (NO : Nat) (H43 : Nat → Int32) (WB : Nat → Int32) (hd : 3 ≤ d) (hW : WT V0) (ha0 : jis V0 (.inr 5) a0) (hf_wd : jfI V0 a0 5 23 wd) (hf_hg : jfI V0 a0 5 24 hg) (hf_cv : jfI V0 a0 5 26 cv) (hf_sv : jfI V0 a0 5 27 sv) (hf_fv : jfI V0 a0 5 28 fv) (hr_rh : jfR V0 a0 5 25 rh) (hr_wb : jfR V0 a0 5 29 wb) (ha_H43 : V0 rh = some (.inl (43, 36, .inl H43))) (ha_WB : V0 wb = some (.inl (30, 36, .inl WB))) (hp0 : 2 ≤ wd.toInt) (hp1 : wd.toInt ≤ 6) (hp2 : 2 ≤ hg.toInt) (hp3 : hg.toInt ≤ 6) (hp4 : jopr op wd.toInt.toNat hg.toInt.toNat H43) (hp5 : jcn 1 H43 (wd.toInt * hg.toInt).toNat = NO) (hp6 : jrm9 op (wd.toInt + 8 * hg.toInt).toNat NO cv sv fv WB) (hp7 : jsum (fun n => (op n).toNat) 64 = NO) (hp8 : NO ≤ 36) (hp9 : ∀ n : Nat, op n = true → n < 64) (hp10 : op 9 = true) : jTot tS mX7_waysOf d [.ref a0, .int x1] V0 0 0 (fun r V => (jPost [.inr 5, .inl 30, .inl 44, .inl 31, .inl 32] V0 (fun r _ => ∃ y : Int32, r = some (.int y) ∧ ((-2147483648) ≤ y.toInt) ∧ (y.toInt ≤ 2147483647) ∧ ((x1.toInt < 0 ∧ y.toInt = -2) ∨ (0 ≤ x1.toInt ∧ 600000 < (jWY op (wd.toInt + 8 * hg.toInt).toNat NO).1 ∧ y.toInt = -5) ∨ (0 ≤ x1.toInt ∧ (jWY op (wd.toInt + 8 * hg.toInt).toNat NO).1 ≤ 600000 ∧ ((x1.toInt < 36 ∧ y.toInt = ((jWY op (wd.toInt + 8 * hg.toInt).toNat NO).2.1 x1.toInt.toNat : Int)) ∨ (36 ≤ x1.toInt ∧ y.toInt = 0)))))) r V ∧ (∃ (WB2 : Nat → Int32) (cv2 sv2 fv2 : Int32), V wb = some (.inl (30, 36, .inl WB2)) ∧ jfI V a0 5 26 cv2 ∧ jfI V a0 5 27 sv2 ∧ jfI V a0 5 28 fv2 ∧ jrm9 op (wd.toInt + 8 * hg.toInt).toNat NO cv2 sv2 fv2 WB2) ∧ jkc 5 [0, 23, 24] V0 V) := by
  refine jTot.of_J [some (.ref a0), some (.int x1)] moX7_waysOf (Nat.le_of_ble_eq_true rfl) rfl ?_
  have hrx1 := j_rng x1
  have he : jeff [.inr 5, .inl 30, .inl 44, .inl 31, .inl 32] V0 V0 := jeff.refl _ _
  have hkp : jkc 5 [0, 23, 24] V0 V0 := jkc.rf
  obtain ⟨fs_a0, hO_a0, hK_a0⟩ := WT_obj hW id ha0
  have hF_wd := hf_wd.get hO_a0
  have hrwd : 2 ≤ wd.toInt ∧ wd.toInt ≤ 6 := jok_rngI hK_a0 rfl hF_wd
  have hF_hg := hf_hg.get hO_a0
  have hrhg : 2 ≤ hg.toInt ∧ hg.toInt ≤ 6 := jok_rngI hK_a0 rfl hF_hg
  have hF_cv := hf_cv.get hO_a0
  have hrcv : 0 ≤ cv.toInt ∧ cv.toInt ≤ 1 := jok_rngI hK_a0 rfl hF_cv
  have hF_sv := hf_sv.get hO_a0
  have hrsv : 0 ≤ sv.toInt ∧ sv.toInt ≤ 1 := jok_rngI hK_a0 rfl hF_sv
  have hF_fv := hf_fv.get hO_a0
  have hrfv : (-2147483648) ≤ fv.toInt ∧ fv.toInt ≤ 2147483647 := jok_rngI hK_a0 rfl hF_fv
  have hF_rh := hr_rh.get hO_a0
  obtain ⟨w_rh, hFq_rh, b_rh, hbq_rh, hb_rh⟩ := hK_a0.2 25 (.inr (some (.inl 43))) rfl
  cases hF_rh.symm.trans (hFq_rh.trans (congrArg some hbq_rh))
  have hF_wb := hr_wb.get hO_a0
  obtain ⟨w_wb, hFq_wb, b_wb, hbq_wb, hb_wb⟩ := hK_a0.2 29 (.inr (some (.inl 30))) rfl
  cases hF_wb.symm.trans (hFq_wb.trans (congrArg some hbq_wb))
  obtain ⟨hN_H43, hv_H43⟩ := WT_rngI (r := (0, 1)) hW id rfl ha_H43
  clear hN_H43
  obtain ⟨hN_WB, hv_WB⟩ := WT_rngI (r := ((-2147483648), 2147483647)) hW id rfl ha_WB
  clear hN_WB
  refine J_iload_n dX7_waysOf_0 rfl ?_
  refine Jz_if_ge (tgt := 7) jEq.rf dX7_waysOf_1 (by decide) (fun c1 => ?_) (fun c1 => ?_)
  · refine J_aload_n dX7_waysOf_7 rfl ?_
    refine Jw_callV0 (q9 := (RX7, TX7, 34)) moX7_countWays jw_ml_X7_230 jw_im_X7_countWays jw_se_X7_countWays ha0 rfl rfl dX7_waysOf_8 (w_X7_countWays_z (d - 1) _ a0 wd hg cv sv fv rh wb op NO H43 WB (by omega) hW  ha0 ⟨_, hO_a0, hF_wd⟩ ⟨_, hO_a0, hF_hg⟩ ⟨_, hO_a0, hF_cv⟩ ⟨_, hO_a0, hF_sv⟩ ⟨_, hO_a0, hF_fv⟩ ⟨_, hO_a0, hF_rh⟩ ⟨_, hO_a0, hF_wb⟩ ha_H43 ha_WB (by omega) (by omega) (by omega) (by omega) (by omega) (by omega) (by omega)) (by omega) (Nat.zero_le _) (Nat.zero_le _) (Nat.le_of_ble_eq_true rfl) (fun r8 V8 h8 => ?_)
    obtain ⟨h8, hX8_0, hX8_1, ⟨fv8_0, hfv8_0, hfp8_0⟩, ⟨fv8_1, hfv8_1, hfp8_1⟩⟩ := h8
    obtain ⟨hW, hx8, hr8⟩ := h8
    have he := he.trans (hx8.sub (jsub_of rfl))
    have hkp := hkp.trans hX8_1
    have ha0 := ha0.mono hx8.1
    have hb_rh := hb_rh.mono hx8.1
    have hb_wb := hb_wb.mono hx8.1
    obtain ⟨fs8a0, hOfs8a0, hRfs8a0⟩ := hx8.1.keep hO_a0
    have hKfs8a0 : jokO _ (jFs 5) fs8a0 := hW _ _ id hOfs8a0
    have hFfs8a0_25 := hRfs8a0 _ _ hF_rh
    have hFfs8a0_29 := hRfs8a0 _ _ hF_wb
    have ha_H43 := hx8.2 _ _ ha_H43 (jnot_of rfl)
    cases hr8
    have hFv8_0 := hfv8_0.get hOfs8a0
    have hsb8_0 : wd = fv8_0 := (jI_inj.mp hfp8_0).symm
    subst hsb8_0
    have hFv8_1 := hfv8_1.get hOfs8a0
    have hsb8_1 : hg = fv8_1 := (jI_inj.mp hfp8_1).symm
    subst hsb8_1
    obtain ⟨WB8, cv8, sv8, fv8, hWa8, hcf8, hsf8, hff8, hjd⟩ := id hX8_0
    have hFv826 := hcf8.get hOfs8a0
    have hFv827 := hsf8.get hOfs8a0
    have hFv828 := hff8.get hOfs8a0
    obtain ⟨hN_WB8, hv_WB8⟩ := WT_rngI (r := ((-2147483648), 2147483647)) hW id rfl hWa8
    clear hN_WB8
    refine J_aload_n dX7_waysOf_11 rfl ?_
    refine J_get jf_X7_218 dX7_waysOf_12 hOfs8a0 hFv827 ?_
    refine Jz_if_eq (tgt := 23) jEq.rf dX7_waysOf_15 (by decide) (fun c15 => ?_) (fun c15 => ?_)
    · obtain ⟨j1, j2, j3⟩ : (jWY op (wd.toInt + 8 * hg.toInt).toNat NO).1 ≤ 600000 ∧ fv8.toInt = ((jWY op (wd.toInt + 8 * hg.toInt).toNat NO).2.2.2 : Int) ∧ ∀ k : Nat, k < 36 → (WB8 k).toInt = ((jWY op (wd.toInt + 8 * hg.toInt).toNat NO).2.1 k : Int) := hjd.elim (fun q => absurd c15 q.1) (fun q => ⟨q.2.1, q.2.2.1, q.2.2.2⟩)
      refine J_iload_n dX7_waysOf_23 rfl ?_
      refine Jz_bipush 36 dX7_waysOf_24 (by decide) (fun y24 he24 => ?_)
      refine Jz_icmp_ge (tgt := 38) jEq.rf he24 dX7_waysOf_26 (by decide) (fun c26 => ?_) (fun c26 => ?_)
      · refine Jz_iconst 0 dX7_waysOf_38 (by decide) (fun y38 he38 => ?_)
        exact J_ret (r := some (.int _)) dX7_waysOf_39 ⟨rfl, _, rfl, rfl⟩ (⟨⟨hW, he, ⟨_, rfl, (j_rng _).1, (j_rng _).2, (by first | exact Or.inr (Or.inl ⟨by omega, j1, he18.eq⟩) | exact Or.inr (Or.inr ⟨by omega, j1, Or.inl ⟨by omega, by rw [← hf34]; exact j3 _ (by omega)⟩⟩) | exact Or.inr (Or.inr ⟨by omega, j1, Or.inr ⟨by omega, he38.eq⟩⟩))⟩⟩, ⟨WB8, cv8, sv8, fv8, hWa8, hcf8, hsf8, hff8, fun _ => hjd⟩, hkp⟩)
      · refine J_aload_n dX7_waysOf_29 rfl ?_
        refine J_get jf_X7_83 dX7_waysOf_30 hOfs8a0 hFfs8a0_29 ?_
        refine J_iload_n dX7_waysOf_33 rfl ?_
        refine Jz_iald (r := ((-2147483648), 2147483647)) jEq.rf dX7_waysOf_34 hWa8 rfl hv_WB8 (by omega) (by omega) (fun y34 hf34 hl34 hh34 => ?_)
        dsimp only at hl34 hh34
        clear hl34 hh34
        refine J_goto (tgt := 39) dX7_waysOf_35 (by decide) ?_
        exact J_ret (r := some (.int _)) dX7_waysOf_39 ⟨rfl, _, rfl, rfl⟩ (⟨⟨hW, he, ⟨_, rfl, (j_rng _).1, (j_rng _).2, (by first | exact Or.inr (Or.inl ⟨by omega, j1, he18.eq⟩) | exact Or.inr (Or.inr ⟨by omega, j1, Or.inl ⟨by omega, by rw [← hf34]; exact j3 _ (by omega)⟩⟩) | exact Or.inr (Or.inr ⟨by omega, j1, Or.inr ⟨by omega, he38.eq⟩⟩))⟩⟩, ⟨WB8, cv8, sv8, fv8, hWa8, hcf8, hsf8, hff8, fun _ => hjd⟩, hkp⟩)
    · have j1 : 600000 < (jWY op (wd.toInt + 8 * hg.toInt).toNat NO).1 := hjd.elim (fun q => q.2) (fun q => absurd q.1 c15)
      refine Jz_bipush (-5) dX7_waysOf_18 (by decide) (fun y18 he18 => ?_)
      refine J_goto (tgt := 39) dX7_waysOf_20 (by decide) ?_
      exact J_ret (r := some (.int _)) dX7_waysOf_39 ⟨rfl, _, rfl, rfl⟩ (⟨⟨hW, he, ⟨_, rfl, (j_rng _).1, (j_rng _).2, (by first | exact Or.inr (Or.inl ⟨by omega, j1, he18.eq⟩) | exact Or.inr (Or.inr ⟨by omega, j1, Or.inl ⟨by omega, by rw [← hf34]; exact j3 _ (by omega)⟩⟩) | exact Or.inr (Or.inr ⟨by omega, j1, Or.inr ⟨by omega, he38.eq⟩⟩))⟩⟩, ⟨WB8, cv8, sv8, fv8, hWa8, hcf8, hsf8, hff8, fun _ => hjd⟩, hkp⟩)
  · refine Jz_bipush (-2) dX7_waysOf_4 (by decide) (fun y4 he4 => ?_)
    exact J_ret (r := some (.int _)) dX7_waysOf_6 ⟨rfl, _, rfl, rfl⟩ (⟨⟨hW, he, ⟨_, rfl, (j_rng _).1, (j_rng _).2, (Or.inl ⟨by omega, he4.eq⟩)⟩⟩, ⟨WB, cv, sv, fv, ha_WB, hf_cv, hf_sv, hf_fv, hp6⟩, hkp⟩)
