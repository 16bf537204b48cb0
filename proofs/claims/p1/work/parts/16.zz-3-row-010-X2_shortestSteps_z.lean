set_option maxRecDepth 100000 in
set_option maxHeartbeats 8000000 in
theorem w_X2_shortestSteps_z {tS : jTS} (d : Nat) (V0 : jH) (a0 : Nat) (w1 : Int32) (h1 : Int32) (op : Int64) (hd : 2 ≤ d) (hW : WT V0) (ha0 : jis V0 (.inr 0) a0) (hf_w1 : jfI V0 a0 0 1 w1) (hf_h1 : jfI V0 a0 0 2 h1) (hq_op : jfL V0 a0 0 3 op) (hp0 : 2 ≤ w1.toInt) (hp1 : w1.toInt ≤ 6) (hp2 : 2 ≤ h1.toInt) (hp3 : h1.toInt ≤ 6) (hp4 : ∀ n : Nat, jbt op n = true → 9 ≤ n ∧ n ≤ 54) : jTot tS mX2_shortestSteps d [.ref a0] V0 0 0 (fun r V => (fun r _ => ∃ y : Int32, r = some (.int y) ∧ ((-2147483648) ≤ y.toInt) ∧ (y.toInt ≤ 2147483647) ∧ (jshort (jbt op) (w1.toInt + 8 * h1.toInt).toNat y.toInt)) r V ∧ V = V0) := by
  refine jTot.of_J [some (.ref a0), none, none, none, none, none, none, none] moX2_shortestSteps (Nat.le_of_ble_eq_true rfl) rfl ?_
  have he : jeff [] V0 V0 := jeff.refl _ _
  obtain ⟨fs_a0, hO_a0, hK_a0⟩ := WT_obj hW id ha0
  have hF_w1 := hf_w1.get hO_a0
  have hrw1 : (-2147483648) ≤ w1.toInt ∧ w1.toInt ≤ 2147483647 := jok_rngI hK_a0 rfl hF_w1
  have hF_h1 := hf_h1.get hO_a0
  have hrh1 : (-2147483648) ≤ h1.toInt ∧ h1.toInt ≤ 2147483647 := jok_rngI hK_a0 rfl hF_h1
  have hF_op := hq_op.get hO_a0
  refine J_aload_n dX2_shortestSteps_0 rfl ?_
  refine J_get jf_X2_15 dX2_shortestSteps_1 hO_a0 hF_w1 ?_
  refine Jz_iconst 1 dX2_shortestSteps_4 (by decide) (fun y4 he4 => ?_)
  refine Jz_isub jEq.rf he4 dX2_shortestSteps_5 (by omega) (by omega) (fun y5 he5 => ?_)
  refine J_aload_n dX2_shortestSteps_6 rfl ?_
  refine J_get jf_X2_19 dX2_shortestSteps_7 hO_a0 hF_h1 ?_
  refine Jz_iconst 1 dX2_shortestSteps_10 (by decide) (fun y10 he10 => ?_)
  refine Jz_isub jEq.rf he10 dX2_shortestSteps_11 (by omega) (by omega) (fun y11 he11 => ?_)
  refine J_callS2 moX2_bitOf jw_ml_X2_46 jw_st_X2_bitOf dX2_shortestSteps_12 (w_X2_bitOf_z (d - 1) _ y5 y11 (by omega)   (by (try simp only [he5.eq, true_and, and_true]) <;> omega) (by (try simp only [he5.eq, true_and, and_true]) <;> omega) (by (try simp only [he11.eq, true_and, and_true]) <;> omega) (by (try simp only [he11.eq, true_and, and_true]) <;> omega)) (by omega) (Nat.zero_le _) (Nat.zero_le _) (Nat.le_of_ble_eq_true rfl) (fun r12 V12 h12 => ?_)
  obtain ⟨⟨y12, rfl, hP12_0⟩, hE12⟩ := h12
  try simp only [he5.eq, he11.eq] at hP12_0
  have hE12 := hE12.symm
  subst hE12
  refine J_lstore_n dX2_shortestSteps_15 rfl (by decide) ?_
  refine Jz_iconst 0 dX2_shortestSteps_16 (by decide) (fun y16 he16 => ?_)
  refine Jz_iconst 0 dX2_shortestSteps_17 (by decide) (fun y17 he17 => ?_)
  refine J_callS2 moX2_bitOf jw_ml_X2_46 jw_st_X2_bitOf dX2_shortestSteps_18 (w_X2_bitOf_z (d - 1) _ y16 y17 (by omega)   (by (try simp only [he16.eq, true_and, and_true]) <;> omega) (by (try simp only [he16.eq, true_and, and_true]) <;> omega) (by (try simp only [he17.eq, true_and, and_true]) <;> omega) (by (try simp only [he17.eq, true_and, and_true]) <;> omega)) (by omega) (Nat.zero_le _) (Nat.zero_le _) (Nat.le_of_ble_eq_true rfl) (fun r18 V18 h18 => ?_)
  obtain ⟨⟨y18, rfl, hP18_0⟩, hE18⟩ := h18
  try simp only [he16.eq, he17.eq] at hP18_0
  have hE18 := hE18.symm
  subst hE18
  refine J_lstore_n dX2_shortestSteps_21 rfl (by decide) ?_
  refine Jz_iconst 0 dX2_shortestSteps_22 (by decide) (fun y22 he22 => ?_)
  refine J_istore dX2_shortestSteps_23 rfl (by decide) ?_
  have L25 : ∀ (N : Nat) (i3n25 : Int64) (i5n25 : Int32), (0 ≤ i5n25.toInt ∧ i5n25.toInt ≤ 36) → (∀ n : Nat, jbt i3n25 n = jcm (jbt op) i5n25.toInt.toNat n) → (∀ j : Nat, (j : Int) < i5n25.toInt → jcm (jbt op) j (w1.toInt + 8 * h1.toInt).toNat = false) → (300 - i5n25.toInt).toNat < N → J tS mX2_shortestSteps d 25 [some (.ref a0), some (.long y12), none, some (.long i3n25), none, some (.int i5n25), none, none] [] V0 0 0 (fun r V => (fun r _ => ∃ y : Int32, r = some (.int y) ∧ ((-2147483648) ≤ y.toInt) ∧ (y.toInt ≤ 2147483647) ∧ (jshort (jbt op) (w1.toInt + 8 * h1.toInt).toNat y.toInt)) r V ∧ V = V0) := by
    intro N
    induction N with
    | zero => intro i3n25 i5n25  hi5 hcm hno hm; exact absurd hm (Nat.not_lt_zero _)
    | succ N ih =>
      intro i3n25 i5n25  hi5 hcm hno hm
      have ih25 := ih
      have hri5 := j_rng i5n25
      refine J_iload dX2_shortestSteps_25 rfl ?_
      refine Jz_bipush 36 dX2_shortestSteps_27 (by decide) (fun y27 he27 => ?_)
      refine Jz_icmp_ge (tgt := 78) jEq.rf he27 dX2_shortestSteps_29 (by decide) (fun c29 => ?_) (fun c29 => ?_)
      · refine Jz_iconst (-1) dX2_shortestSteps_78 (by decide) (fun y78 he78 => ?_)
        exact J_ret (r := some (.int _)) dX2_shortestSteps_79 ⟨rfl, _, rfl, rfl⟩ (⟨⟨_, rfl, (j_rng _).1, (j_rng _).2, (Or.inr ⟨he78.eq, fun j hj => hno j (by omega)⟩)⟩, rfl⟩)
      · refine J_lload_n dX2_shortestSteps_32 rfl ?_
        refine J_lload_n dX2_shortestSteps_33 rfl ?_
        refine J_land dX2_shortestSteps_34 ?_
        refine J_lconst (v := 0) dX2_shortestSteps_35 rfl ?_
        refine Jz_lcmp dX2_shortestSteps_36 (fun y36 he36 => ?_)
        refine Jz_if_eq (tgt := 43) jEq.rf dX2_shortestSteps_37 (by decide) (fun c37 => ?_) (fun c37 => ?_)
        · have hgf : jcm (jbt op) i5n25.toInt.toNat (w1.toInt + 8 * h1.toInt).toNat = false := by rw [← hcm]; exact (jbt_one (show ∀ n : Nat, jbt y12 n = decide (n = (w1.toInt + 8 * h1.toInt).toNat) from fun n => (hP12_0 n).trans (decide_eq_decide.mpr (by omega)))).mp (he36.mp c37)
          refine J_lload_n dX2_shortestSteps_43 rfl ?_
          refine Jz_iconst 1 dX2_shortestSteps_44 (by decide) (fun y44 he44 => ?_)
          refine J_lshl dX2_shortestSteps_45 rfl ?_
          refine J_lload_n dX2_shortestSteps_46 rfl ?_
          refine Jz_iconst 1 dX2_shortestSteps_47 (by decide) (fun y47 he47 => ?_)
          refine J_lushr dX2_shortestSteps_48 rfl ?_
          refine J_lor dX2_shortestSteps_49 ?_
          refine J_lload_n dX2_shortestSteps_50 rfl ?_
          refine Jz_bipush 8 dX2_shortestSteps_51 (by decide) (fun y51 he51 => ?_)
          refine J_lshl dX2_shortestSteps_53 rfl ?_
          refine J_lor dX2_shortestSteps_54 ?_
          refine J_lload_n dX2_shortestSteps_55 rfl ?_
          refine Jz_bipush 8 dX2_shortestSteps_56 (by decide) (fun y56 he56 => ?_)
          refine J_lushr dX2_shortestSteps_58 rfl ?_
          refine J_lor dX2_shortestSteps_59 ?_
          refine J_lstore dX2_shortestSteps_60 rfl (by decide) ?_
          refine J_lload_n dX2_shortestSteps_62 rfl ?_
          refine J_lload dX2_shortestSteps_63 rfl ?_
          refine J_aload_n dX2_shortestSteps_65 rfl ?_
          refine J_get jf_X2_22 dX2_shortestSteps_66 hO_a0 hF_op ?_
          refine J_land dX2_shortestSteps_69 ?_
          refine J_lor dX2_shortestSteps_70 ?_
          refine J_lstore_n dX2_shortestSteps_71 rfl (by decide) ?_
          refine Jz_iinc 1 dX2_shortestSteps_72 rfl rfl (by decide) jEq.rf (by decide) (by omega) (by omega) (fun y72 he72 => ?_)
          refine J_goto (tgt := 25) dX2_shortestSteps_75 (by decide) ?_
          refine J.mask [true, true, false, true, false, true, false, false] ?_
          exact ih25  (i3n25 ||| (((((i3n25 <<< (y44.toInt64 &&& 63)) ||| (jlsr i3n25 y47)) ||| (i3n25 <<< (y51.toInt64 &&& 63))) ||| (jlsr i3n25 y56)) &&& op)) y72  (by (try simp only [he72.eq, true_and, and_true]) <;> omega) (fun n => by rw [he72.eq, show (i5n25.toInt + 1).toNat = i5n25.toInt.toNat + 1 by omega]; exact jcm_step hcm hp4 (show y44 = 1 from jI_inj.mp (he44.eq.trans rfl)) (show y47 = 1 from jI_inj.mp (he47.eq.trans rfl)) (show y51 = 8 from jI_inj.mp (he51.eq.trans rfl)) (show y56 = 8 from jI_inj.mp (he56.eq.trans rfl)) n) (fun j hj => by rw [he72.eq] at hj; by_cases c : j = i5n25.toInt.toNat; (rw [c]; exact hgf); exact hno j (by omega)) (by (try simp only [he72.eq, true_and, and_true]) <;> omega)
        · have hgt : jcm (jbt op) i5n25.toInt.toNat (w1.toInt + 8 * h1.toInt).toNat = true := Eq.mp (Bool.not_eq_false _) (fun q => c37 (he36.mpr ((jbt_one (show ∀ n : Nat, jbt y12 n = decide (n = (w1.toInt + 8 * h1.toInt).toNat) from fun n => (hP12_0 n).trans (decide_eq_decide.mpr (by omega)))).mpr (by rw [hcm]; exact q))))
          refine J_iload dX2_shortestSteps_40 rfl ?_
          exact J_ret (r := some (.int _)) dX2_shortestSteps_42 ⟨rfl, _, rfl, rfl⟩ (⟨⟨_, rfl, (j_rng _).1, (j_rng _).2, (Or.inl ⟨by omega, by omega, hgt, hno⟩)⟩, rfl⟩)
  refine J.mask [true, true, false, true, false, true, false, false] ?_
  exact L25 _  y18 y22    (by (try simp only [he22.eq, true_and, and_true]) <;> omega) (fun n => by rw [he22.eq, hP18_0 n]; show decide _ = decide (n = 9); exact decide_eq_decide.mpr (by omega)) (fun j hj => by rw [he22.eq] at hj; omega) (Nat.lt_succ_self _)
