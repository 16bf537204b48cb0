set_option maxRecDepth 100000 in
set_option maxHeartbeats 8000000 in
theorem w_X7_next_z {tS : jTS} (d : Nat) (V0 : jH) (a0 : Nat) (x1 : Int32) (x2 : Int32) (wd : Int32) (hg : Int32) (rh : Nat) (op : Nat → Bool) (H43 : Nat → Int32) (hd : 1 ≤ d) (hW : WT V0) (ha0 : jis V0 (.inr 5) a0) (hf_wd : jfI V0 a0 5 23 wd) (hf_hg : jfI V0 a0 5 24 hg) (hr_rh : jfR V0 a0 5 25 rh) (ha_H43 : V0 rh = some (.inl (43, 36, .inl H43))) (hp0 : 2 ≤ wd.toInt) (hp1 : wd.toInt ≤ 6) (hp2 : 2 ≤ hg.toInt) (hp3 : hg.toInt ≤ 6) (hp4 : jopr op wd.toInt.toNat hg.toInt.toNat H43) (hp5 : 0 ≤ x1.toInt) (hp6 : x1.toInt < wd.toInt * hg.toInt) (hp7 : 0 ≤ x2.toInt) (hp8 : x2.toInt ≤ 3) : jTot tS mX7_next d [.ref a0, .int x1, .int x2] V0 0 0 (fun r V => (fun r _ => ∃ y : Int32, r = some (.int y) ∧ ((-1) ≤ y.toInt) ∧ (y.toInt ≤ 35) ∧ ((y.toInt = -1 ∧ op (jdk (jpb9 wd.toInt.toNat x1.toInt.toNat) x2.toInt.toNat) = false) ∨ (0 ≤ y.toInt ∧ y.toInt < wd.toInt * hg.toInt ∧ op (jdk (jpb9 wd.toInt.toNat x1.toInt.toNat) x2.toInt.toNat) = true ∧ jpb9 wd.toInt.toNat y.toInt.toNat = jdk (jpb9 wd.toInt.toNat x1.toInt.toNat) x2.toInt.toNat))) r V ∧ V = V0) := by
  refine jTot.of_J [some (.ref a0), some (.int x1), some (.int x2), none, none] moX7_next (Nat.le_of_ble_eq_true rfl) rfl ?_
  have hrx1 := j_rng x1
  have hrx2 := j_rng x2
  have he : jeff [] V0 V0 := jeff.refl _ _
  obtain ⟨fs_a0, hO_a0, hK_a0⟩ := WT_obj hW id ha0
  have hF_wd := hf_wd.get hO_a0
  have hrwd : 2 ≤ wd.toInt ∧ wd.toInt ≤ 6 := jok_rngI hK_a0 rfl hF_wd
  have hF_hg := hf_hg.get hO_a0
  have hrhg : 2 ≤ hg.toInt ∧ hg.toInt ≤ 6 := jok_rngI hK_a0 rfl hF_hg
  have hF_rh := hr_rh.get hO_a0
  obtain ⟨w_rh, hFq_rh, b_rh, hbq_rh, hb_rh⟩ := hK_a0.2 25 (.inr (some (.inl 43))) rfl
  cases hF_rh.symm.trans (hFq_rh.trans (congrArg some hbq_rh))
  obtain ⟨hN_H43, hv_H43⟩ := WT_rngI (r := (0, 1)) hW id rfl ha_H43
  clear hN_H43
  have hA0 := Int.mul_le_mul (show 2 ≤ wd.toInt by omega) (show 2 ≤ hg.toInt by omega) (by omega) (by omega)
  have hA1 := Int.mul_le_mul (show wd.toInt ≤ 6 by omega) (show hg.toInt ≤ 6 by omega) (by omega) (by omega)
  have hr0 := Int.emod_nonneg x1.toInt (show wd.toInt ≠ 0 by omega)
  have hr1 := Int.emod_lt_of_pos x1.toInt (show 0 < wd.toInt by omega)
  have hd0 := Int.ediv_nonneg hp5 (show 0 ≤ wd.toInt by omega)
  have hd1 : x1.toInt / wd.toInt < hg.toInt := Int.ediv_lt_of_lt_mul (by omega) (by rw [Int.mul_comm]; exact hp6)
  have hbx := jsx_b 0 x2.toInt
  have hby := jsy_b 0 x2.toInt 0
  have hjn := jnxt (p := x1.toInt) (d := x2.toInt) (X := x1.toInt % wd.toInt + jsx 0 x2.toInt) (Y := x1.toInt / wd.toInt + jsy 0 x2.toInt 0) hp4 (by omega) (by omega) (by omega) (by omega) hp6 (by omega) (by omega) rfl rfl
  have hmy := Int.mul_le_mul_of_nonneg_left (show x1.toInt / wd.toInt + jsy 0 x2.toInt 0 ≤ hg.toInt by omega) (show 0 ≤ wd.toInt by omega)
  refine J_iload_n dX7_next_0 rfl ?_
  refine J_aload_n dX7_next_1 rfl ?_
  refine J_get jf_X7_73 dX7_next_2 hO_a0 hF_wd ?_
  refine Jz_iremC jEq.rf jEq.rf dX7_next_5 (by omega) (by omega) (fun y5 he5 => ?_)
  refine Jz_iconst 0 dX7_next_6 (by decide) (fun y6 he6 => ?_)
  refine J_iload_n dX7_next_7 rfl ?_
  refine J_callS2 moX7_stepX jw_ml_X7_112 jw_st_X7_stepX dX7_next_8 (w_X7_stepX_z (d - 1) _ y6 x2 (by omega)   (by (try simp only [he6.eq, true_and, and_true]) <;> omega) (by (try simp only [he6.eq, true_and, and_true]) <;> omega)) (by omega) (Nat.zero_le _) (Nat.zero_le _) (Nat.le_of_ble_eq_true rfl) (fun r8 V8 h8 => ?_)
  obtain ⟨⟨y8, rfl, hl8, hh8, hP8_0⟩, hE8⟩ := h8
  have hE8 := hE8.symm
  subst hE8
  try simp only [he6.eq] at hP8_0
  have hz8 : jEq y8.toInt (jsx (0) (x2.toInt)) := hP8_0
  simp only [hP8_0] at hl8 hh8
  clear hP8_0
  refine Jz_iadd he5 hz8 dX7_next_11 (by omega) (by omega) (fun y11 he11 => ?_)
  refine J_istore_n dX7_next_12 rfl (by decide) ?_
  refine J_iload_n dX7_next_13 rfl ?_
  refine J_aload_n dX7_next_14 rfl ?_
  refine J_get jf_X7_73 dX7_next_15 hO_a0 hF_wd ?_
  refine Jz_idivC jEq.rf jEq.rf dX7_next_18 (by omega) (by omega) (fun y18 he18 => ?_)
  refine Jz_iconst 0 dX7_next_19 (by decide) (fun y19 he19 => ?_)
  refine J_iload_n dX7_next_20 rfl ?_
  refine Jz_iconst 0 dX7_next_21 (by decide) (fun y21 he21 => ?_)
  refine J_callS3 moX7_stepY jw_ml_X7_115 jw_st_X7_stepY dX7_next_22 (w_X7_stepY_z (d - 1) _ y19 x2 y21 (by omega)   (by (try simp only [he19.eq, true_and, and_true]) <;> omega) (by (try simp only [he19.eq, true_and, and_true]) <;> omega)) (by omega) (Nat.zero_le _) (Nat.zero_le _) (Nat.le_of_ble_eq_true rfl) (fun r22 V22 h22 => ?_)
  obtain ⟨⟨y22, rfl, hl22, hh22, hP22_0⟩, hE22⟩ := h22
  have hE22 := hE22.symm
  subst hE22
  try simp only [he19.eq, he21.eq] at hP22_0
  have hz22 : jEq y22.toInt (jsy (0) (x2.toInt) (0)) := hP22_0
  simp only [hP22_0] at hl22 hh22
  clear hP22_0
  refine Jz_iadd he18 hz22 dX7_next_25 (by omega) (by omega) (fun y25 he25 => ?_)
  refine J_istore dX7_next_26 rfl (by decide) ?_
  refine J_iload_n dX7_next_28 rfl ?_
  refine Jz_iconst 0 dX7_next_29 (by decide) (fun y29 he29 => ?_)
  refine J_aload_n dX7_next_30 rfl ?_
  refine J_get jf_X7_73 dX7_next_31 hO_a0 hF_wd ?_
  refine Jz_iconst 1 dX7_next_34 (by decide) (fun y34 he34 => ?_)
  refine Jz_isub jEq.rf he34 dX7_next_35 (by omega) (by omega) (fun y35 he35 => ?_)
  refine J_callS3 moX7_in jw_ml_X7_105 jw_st_X7_in dX7_next_36 (w_X7_in_y (d - 1) _ y11 y29 y35 (by omega)   ) (by omega) (Nat.zero_le _) (Nat.zero_le _) (Nat.le_of_ble_eq_true rfl) (fun r36 V36 h36 => ?_)
  obtain ⟨⟨y36, rfl, hl36, hh36, hP36_0⟩, hE36⟩ := h36
  have hE36 := hE36.symm
  subst hE36
  try simp only [he11.eq, he29.eq, he35.eq] at hP36_0
  refine Jz_if_eq (tgt := 86) jEq.rf dX7_next_39 (by decide) (fun c39 => ?_) (fun c39 => ?_)
  · refine Jz_iconst (-1) dX7_next_86 (by decide) (fun y86 he86 => ?_)
    exact J_ret (r := some (.int _)) dX7_next_87 ⟨rfl, _, rfl, rfl⟩ (⟨⟨_, rfl, (by (try simp only [he86.eq, true_and, and_true]) <;> omega), (by (try simp only [he86.eq, true_and, and_true]) <;> omega), (Or.inl ⟨he86.eq, hjn.2 (fun z => by omega)⟩)⟩, rfl⟩)
  · refine J_iload dX7_next_42 rfl ?_
    refine Jz_iconst 0 dX7_next_44 (by decide) (fun y44 he44 => ?_)
    refine J_aload_n dX7_next_45 rfl ?_
    refine J_get jf_X7_77 dX7_next_46 hO_a0 hF_hg ?_
    refine Jz_iconst 1 dX7_next_49 (by decide) (fun y49 he49 => ?_)
    refine Jz_isub jEq.rf he49 dX7_next_50 (by omega) (by omega) (fun y50 he50 => ?_)
    refine J_callS3 moX7_in jw_ml_X7_105 jw_st_X7_in dX7_next_51 (w_X7_in_y (d - 1) _ y25 y44 y50 (by omega)   ) (by omega) (Nat.zero_le _) (Nat.zero_le _) (Nat.le_of_ble_eq_true rfl) (fun r51 V51 h51 => ?_)
    obtain ⟨⟨y51, rfl, hl51, hh51, hP51_0⟩, hE51⟩ := h51
    have hE51 := hE51.symm
    subst hE51
    try simp only [he25.eq, he44.eq, he50.eq] at hP51_0
    refine Jz_if_eq (tgt := 86) jEq.rf dX7_next_54 (by decide) (fun c54 => ?_) (fun c54 => ?_)
    · refine Jz_iconst (-1) dX7_next_86 (by decide) (fun y86 he86 => ?_)
      exact J_ret (r := some (.int _)) dX7_next_87 ⟨rfl, _, rfl, rfl⟩ (⟨⟨_, rfl, (by (try simp only [he86.eq, true_and, and_true]) <;> omega), (by (try simp only [he86.eq, true_and, and_true]) <;> omega), (Or.inl ⟨he86.eq, hjn.2 (fun z => by omega)⟩)⟩, rfl⟩)
    · refine J_aload_n dX7_next_57 rfl ?_
      refine J_get jf_X7_80 dX7_next_58 hO_a0 hF_rh ?_
      refine J_iload_n dX7_next_61 rfl ?_
      refine J_aload_n dX7_next_62 rfl ?_
      refine J_get jf_X7_73 dX7_next_63 hO_a0 hF_wd ?_
      refine J_iload dX7_next_66 rfl ?_
      have hyy : 0 ≤ x1.toInt / wd.toInt + jsy 0 x2.toInt 0 ∧ x1.toInt / wd.toInt + jsy 0 x2.toInt 0 < hg.toInt := by omega
      have hxx : 0 ≤ x1.toInt % wd.toInt + jsx 0 x2.toInt ∧ x1.toInt % wd.toInt + jsx 0 x2.toInt < wd.toInt := by omega
      have hm0 := Int.mul_nonneg (show 0 ≤ wd.toInt by omega) hyy.1
      have hm1 := Int.mul_le_mul_of_nonneg_left (show x1.toInt / wd.toInt + jsy 0 x2.toInt 0 + 1 ≤ hg.toInt by omega) (show 0 ≤ wd.toInt by omega)
      rw [Int.mul_add, Int.mul_one] at hm1
      refine Jz_imul jEq.rf he25 dX7_next_68 (by omega) (by omega) (fun y68 he68 => ?_)
      refine Jz_iadd he11 he68 dX7_next_69 (by omega) (by omega) (fun y69 he69 => ?_)
      refine Jz_zald (r := (0, 1)) he69 dX7_next_70 ha_H43 rfl hv_H43 (by omega) (by omega) (fun y70 hf70 hl70 hh70 => ?_)
      dsimp only at hl70 hh70
      refine Jz_if_ne (tgt := 86) jEq.rf dX7_next_71 (by decide) (fun c71 => ?_) (fun c71 => ?_)
      · refine Jz_iconst (-1) dX7_next_86 (by decide) (fun y86 he86 => ?_)
        exact J_ret (r := some (.int _)) dX7_next_87 ⟨rfl, _, rfl, rfl⟩ (⟨⟨_, rfl, (by (try simp only [he86.eq, true_and, and_true]) <;> omega), (by (try simp only [he86.eq, true_and, and_true]) <;> omega), (Or.inl ⟨he86.eq, hjn.2 (fun z => by have q := z.2.2.2.2; rw [hf70] at q; omega)⟩)⟩, rfl⟩)
      · refine J_iload_n dX7_next_74 rfl ?_
        refine J_aload_n dX7_next_75 rfl ?_
        refine J_get jf_X7_73 dX7_next_76 hO_a0 hF_wd ?_
        refine J_iload dX7_next_79 rfl ?_
        refine Jz_imul jEq.rf he25 dX7_next_81 (by omega) (by omega) (fun y81 he81 => ?_)
        refine Jz_iadd he11 he81 dX7_next_82 (by omega) (by omega) (fun y82 he82 => ?_)
        refine J_goto (tgt := 87) dX7_next_83 (by decide) ?_
        exact J_ret (r := some (.int _)) dX7_next_87 ⟨rfl, _, rfl, rfl⟩ (⟨⟨_, rfl, (by (try simp only [he82.eq, true_and, and_true]) <;> omega), (by (try simp only [he82.eq, true_and, and_true]) <;> omega), (by rw [he82.eq]; exact Or.inr (hjn.1 ⟨hxx.1, hxx.2, hyy.1, hyy.2, by rw [hf70]; omega⟩))⟩, rfl⟩)
