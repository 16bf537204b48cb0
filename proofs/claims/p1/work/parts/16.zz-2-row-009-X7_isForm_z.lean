set_option maxRecDepth 100000 in
set_option maxHeartbeats 8000000 in
theorem w_X7_isForm_z {tS : jTS} (d : Nat) (V0 : jH) (a0 : Nat) (x1 : Int32) (n : Int32) (rw : Nat) (fm : Nat) (RW : Nat → Int32) (FM : Nat → Int32) (hd : 4 ≤ d) (hW : WT V0) (ha0 : jis V0 (.inr 5) a0) (hf_n : jfI V0 a0 5 5 n) (hr_rw : jfR V0 a0 5 4 rw) (hr_fm : jfR V0 a0 5 9 fm) (ha_RW : V0 rw = some (.inl (17, 120, .inl RW))) (ha_FM : V0 fm = some (.inl (21, 60, .inl FM))) (hp0 : 0 ≤ x1.toInt) (hp1 : x1.toInt ≤ 3) (hp2 : n.toInt ≤ 60) (hp3 : ∀ j : Nat, (j : Int) < n.toInt → 0 ≤ (RW j).toInt ∧ (RW j).toInt < jdir x1.toInt) : jTot tS mX7_isForm d [.ref a0, .int x1] V0 0 0 (jPost [.inl 21] V0 (fun r _ => ∃ y : Int32, r = some (.int y) ∧ (0 ≤ y.toInt) ∧ (y.toInt ≤ 1) ∧ ((y.toInt = 1 ∧ jow x1.toInt (fun q => (RW q).toInt) n.toInt.toNat) ∨ (y.toInt = 0 ∧ ¬ jow x1.toInt (fun q => (RW q).toInt) n.toInt.toNat)))) := by
  refine jTot.of_J [some (.ref a0), some (.int x1), none] moX7_isForm (Nat.le_of_ble_eq_true rfl) rfl ?_
  have hrx1 := j_rng x1
  have he : jeff [.inl 21] V0 V0 := jeff.refl _ _
  obtain ⟨fs_a0, hO_a0, hK_a0⟩ := WT_obj hW id ha0
  have hF_n := hf_n.get hO_a0
  have hrn : 0 ≤ n.toInt ∧ n.toInt ≤ 120 := jok_rngI hK_a0 rfl hF_n
  have hF_rw := hr_rw.get hO_a0
  obtain ⟨w_rw, hFq_rw, b_rw, hbq_rw, hb_rw⟩ := hK_a0.2 4 (.inr (some (.inl 17))) rfl
  cases hF_rw.symm.trans (hFq_rw.trans (congrArg some hbq_rw))
  have hF_fm := hr_fm.get hO_a0
  obtain ⟨w_fm, hFq_fm, b_fm, hbq_fm, hb_fm⟩ := hK_a0.2 9 (.inr (some (.inl 21))) rfl
  cases hF_fm.symm.trans (hFq_fm.trans (congrArg some hbq_fm))
  obtain ⟨hN_RW, hv_RW⟩ := WT_rngI (r := ((-2147483648), 2147483647)) hW id rfl ha_RW
  clear hN_RW
  obtain ⟨hN_FM, hv_FM⟩ := WT_rngI (r := ((-2147483648), 2147483647)) hW id rfl ha_FM
  clear hN_FM
  have htc : 0 ≤ jtur x1.toInt := by have q := jtur_cases x1.toInt; omega
  refine J_aload_n dX7_isForm_0 rfl ?_
  refine J_iload_n dX7_isForm_1 rfl ?_
  refine Jw_callV1 (q9 := (RX7, TX7, 34)) moX7_findForm jw_ml_X7_174 jw_im_X7_findForm jw_se_X7_findForm ha0 rfl rfl dX7_isForm_2 (w_X7_findForm_z (d - 1) _ a0 x1 n rw fm RW FM (by omega) hW  ha0 ⟨_, hO_a0, hF_n⟩ ⟨_, hO_a0, hF_rw⟩ ⟨_, hO_a0, hF_fm⟩ ha_RW ha_FM (by omega) (by omega) (by omega) hp3) (by omega) (Nat.zero_le _) (Nat.zero_le _) (Nat.le_of_ble_eq_true rfl) (fun r2 V2 h2 => ?_)
  obtain ⟨h2, hX2_0⟩ := h2
  obtain ⟨hW, hx2, hr2⟩ := h2
  have he := he.trans (hx2.sub (jsub_of rfl))
  have ha0 := ha0.mono hx2.1
  have hb_rw := hb_rw.mono hx2.1
  have hb_fm := hb_fm.mono hx2.1
  have hO_a0 := hx2.2 _ _ hO_a0 (jnot_of rfl)
  have hK_a0 := hK_a0.mono hx2.1
  have ha_RW := hx2.2 _ _ ha_RW (jnot_of rfl)
  cases hr2
  obtain ⟨F2, hF2, hFe2⟩ := hX2_0
  obtain ⟨hN_F2, hv_F2⟩ := WT_rngI (r := ((-2147483648), 2147483647)) hW id rfl hF2
  clear hN_F2
  refine Jz_iconst 0 dX7_isForm_5 (by decide) (fun y5 he5 => ?_)
  refine J_istore_n dX7_isForm_6 rfl (by decide) ?_
  have L7 : ∀ (N : Nat) (i2n7 : Int32), (0 ≤ i2n7.toInt ∧ i2n7.toInt ≤ n.toInt) → (∀ j : Nat, (j : Int) < i2n7.toInt → (F2 j).toInt = (RW j).toInt) → (300 - i2n7.toInt).toNat < N → J tS mX7_isForm d 7 [some (.ref a0), some (.int x1), some (.int i2n7)] [] V2 0 0 (jPost [.inl 21] V0 (fun r _ => ∃ y : Int32, r = some (.int y) ∧ (0 ≤ y.toInt) ∧ (y.toInt ≤ 1) ∧ ((y.toInt = 1 ∧ jow x1.toInt (fun q => (RW q).toInt) n.toInt.toNat) ∨ (y.toInt = 0 ∧ ¬ jow x1.toInt (fun q => (RW q).toInt) n.toInt.toNat)))) := by
    intro N
    induction N with
    | zero => intro i2n7  hi2 heq hm; exact absurd hm (Nat.not_lt_zero _)
    | succ N ih =>
      intro i2n7  hi2 heq hm
      have ih7 := ih
      have hri2 := j_rng i2n7
      refine J_iload_n dX7_isForm_7 rfl ?_
      refine J_aload_n dX7_isForm_8 rfl ?_
      refine J_get jf_X7_109 dX7_isForm_9 hO_a0 hF_n ?_
      refine Jz_icmp_ge (tgt := 38) jEq.rf jEq.rf dX7_isForm_12 (by decide) (fun c12 => ?_) (fun c12 => ?_)
      · refine Jz_iconst 1 dX7_isForm_38 (by decide) (fun y38 he38 => ?_)
        exact J_ret (r := some (.int _)) dX7_isForm_39 ⟨rfl, _, rfl, (nar_b (by (try simp only [he38.eq, true_and, and_true]) <;> omega) (by (try simp only [he38.eq, true_and, and_true]) <;> omega))⟩ (⟨hW, he, ⟨_, rfl, (by (try simp only [he38.eq, true_and, and_true]) <;> omega), (by (try simp only [he38.eq, true_and, and_true]) <;> omega), (Or.inl ⟨he38.eq, (jow_iff htc).mpr (fun j hj => by rw [← hFe2 j hj]; exact heq j (by omega))⟩)⟩⟩)
      · refine J_aload_n dX7_isForm_15 rfl ?_
        refine J_get jf_X7_31 dX7_isForm_16 hO_a0 hF_fm ?_
        refine J_iload_n dX7_isForm_19 rfl ?_
        refine Jz_iald (r := ((-2147483648), 2147483647)) jEq.rf dX7_isForm_20 hF2 rfl hv_F2 (by omega) (by omega) (fun y20 hf20 hl20 hh20 => ?_)
        dsimp only at hl20 hh20
        clear hl20 hh20
        refine J_aload_n dX7_isForm_21 rfl ?_
        refine J_get jf_X7_19 dX7_isForm_22 hO_a0 hF_rw ?_
        refine J_iload_n dX7_isForm_25 rfl ?_
        refine Jz_iald (r := ((-2147483648), 2147483647)) jEq.rf dX7_isForm_26 ha_RW rfl hv_RW (by omega) (by omega) (fun y26 hf26 hl26 hh26 => ?_)
        dsimp only at hl26 hh26
        clear hl26 hh26
        refine Jz_icmp_eq (tgt := 32) jEq.rf jEq.rf dX7_isForm_27 (by decide) (fun c27 => ?_) (fun c27 => ?_)
        · refine Jz_iinc 1 dX7_isForm_32 rfl rfl (by decide) jEq.rf (by decide) (by omega) (by omega) (fun y32 he32 => ?_)
          refine J_goto (tgt := 7) dX7_isForm_35 (by decide) ?_
          refine J.mask [true, true, true] ?_
          exact ih7  y32  (by (try simp only [he32.eq, true_and, and_true]) <;> omega) (fun j hj => by rw [he32.eq] at hj; by_cases h9 : (j : Int) = i2n7.toInt; (have e : j = i2n7.toInt.toNat := by omega); subst e; rw [hf20, hf26]; exact c27; exact heq j (by omega)) (by (try simp only [he32.eq, true_and, and_true]) <;> omega)
        · refine Jz_iconst 0 dX7_isForm_30 (by decide) (fun y30 he30 => ?_)
          exact J_ret (r := some (.int _)) dX7_isForm_31 ⟨rfl, _, rfl, (nar_b (by (try simp only [he30.eq, true_and, and_true]) <;> omega) (by (try simp only [he30.eq, true_and, and_true]) <;> omega))⟩ (⟨hW, he, ⟨_, rfl, (by (try simp only [he30.eq, true_and, and_true]) <;> omega), (by (try simp only [he30.eq, true_and, and_true]) <;> omega), (Or.inr ⟨he30.eq, fun w => c27 (by rw [← hf20, ← hf26, hFe2 i2n7.toInt.toNat (by omega)]; exact (jow_iff htc).mp w i2n7.toInt.toNat (by omega))⟩)⟩⟩)
  refine J.mask [true, true, true] ?_
  exact L7 _  y5    (by (try simp only [he5.eq, true_and, and_true]) <;> omega) (fun j hj => by rw [he5.eq] at hj; omega) (Nat.lt_succ_self _)
