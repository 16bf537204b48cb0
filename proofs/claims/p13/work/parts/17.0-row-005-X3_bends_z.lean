set_option maxRecDepth 100000 in
set_option maxHeartbeats 8000000 in
theorem w_X3_bends_z {tS : jTS} (d : Nat) (V0 : jH) {ln : Nat} (a0 : Nat) (M : Int32) (g : Int32) (n : Int32) (s : Nat) (xx : Nat) (yy : Nat) (zz : Nat) (S : Nat → Int32) (X : Nat → Int32) (Y : Nat → Int32) (Z : Nat → Int32) (hd : 2 ≤ d) (hW : WT V0) (ha0 : jis V0 (.inr 1) a0) (hf_M : jfI V0 a0 1 0 M) (hf_g : jfI V0 a0 1 5 g) (hf_n : jfI V0 a0 1 6 n) (hr_s : jfR V0 a0 1 1 s) (hr_xx : jfR V0 a0 1 2 xx) (hr_yy : jfR V0 a0 1 3 yy) (hr_zz : jfR V0 a0 1 4 zz) (ha_S : V0 s = some (.inl (6, ln, .inl S))) (ha_X : V0 xx = some (.inl (34, ln + 1, .inl X))) (ha_Y : V0 yy = some (.inl (35, ln + 1, .inl Y))) (ha_Z : V0 zz = some (.inl (36, ln + 1, .inl Z))) (hp0 : M.toInt = (ln : Int)) (hp1 : (ln : Int) ≤ 120) (hp2 : n.toInt ≤ M.toInt) (hp3 : (ln : Int) ≤ 120) : jTot tS mX3_bends d [.ref a0] V0 0 0 (fun r V => (fun r _ => ∃ y : Int32, r = some (.int y) ∧ ((-2147483648) ≤ y.toInt) ∧ (y.toInt ≤ 2147483647) ∧ (y.toInt = jbn S n.toInt.toNat)) r V ∧ V = V0) := by
  refine jTot.of_J [some (.ref a0), none, none] moX3_bends (Nat.le_of_ble_eq_true rfl) rfl ?_
  have he : jeff [] V0 V0 := jeff.refl _ _
  obtain ⟨fs_a0, hO_a0, hK_a0⟩ := WT_obj hW id ha0
  have hF_M := hf_M.get hO_a0
  have hrM : 0 ≤ M.toInt ∧ M.toInt ≤ 120 := jok_rngI hK_a0 rfl hF_M
  have hF_g := hf_g.get hO_a0
  have hrg : (-2147483648) ≤ g.toInt ∧ g.toInt ≤ 2147483647 := jok_rngI hK_a0 rfl hF_g
  have hF_n := hf_n.get hO_a0
  have hrn : 0 ≤ n.toInt ∧ n.toInt ≤ 120 := jok_rngI hK_a0 rfl hF_n
  have hF_s := hr_s.get hO_a0
  obtain ⟨w_s, hFq_s, b_s, hbq_s, hb_s⟩ := hK_a0.2 1 (.inr (some (.inl 6))) rfl
  cases hF_s.symm.trans (hFq_s.trans (congrArg some hbq_s))
  have hF_xx := hr_xx.get hO_a0
  obtain ⟨w_xx, hFq_xx, b_xx, hbq_xx, hb_xx⟩ := hK_a0.2 2 (.inr (some (.inl 34))) rfl
  cases hF_xx.symm.trans (hFq_xx.trans (congrArg some hbq_xx))
  have hF_yy := hr_yy.get hO_a0
  obtain ⟨w_yy, hFq_yy, b_yy, hbq_yy, hb_yy⟩ := hK_a0.2 3 (.inr (some (.inl 35))) rfl
  cases hF_yy.symm.trans (hFq_yy.trans (congrArg some hbq_yy))
  have hF_zz := hr_zz.get hO_a0
  obtain ⟨w_zz, hFq_zz, b_zz, hbq_zz, hb_zz⟩ := hK_a0.2 4 (.inr (some (.inl 36))) rfl
  cases hF_zz.symm.trans (hFq_zz.trans (congrArg some hbq_zz))
  obtain ⟨hN_S, hv_S⟩ := WT_rngI (r := ((-2147483648), 2147483647)) hW id rfl ha_S
  clear hN_S
  obtain ⟨hN_X, hv_X⟩ := WT_rngI (r := ((-2147483648), 2147483647)) hW id rfl ha_X
  clear hN_X
  obtain ⟨hN_Y, hv_Y⟩ := WT_rngI (r := ((-2147483648), 2147483647)) hW id rfl ha_Y
  clear hN_Y
  obtain ⟨hN_Z, hv_Z⟩ := WT_rngI (r := ((-2147483648), 2147483647)) hW id rfl ha_Z
  clear hN_Z
  refine Jz_iconst 0 dX3_bends_0 (by decide) (fun y0 he0 => ?_)
  refine J_istore_n dX3_bends_1 rfl (by decide) ?_
  refine Jz_iconst 1 dX3_bends_2 (by decide) (fun y2 he2 => ?_)
  refine J_istore_n dX3_bends_3 rfl (by decide) ?_
  have L4 : ∀ (N : Nat) (i1n4 : Int32) (i2n4 : Int32), (1 ≤ i2n4.toInt ∧ (i2n4.toInt ≤ n.toInt ∨ i2n4.toInt = 1)) → (i1n4.toInt = jbn S i2n4.toInt.toNat) → (300 - i2n4.toInt).toNat < N → J tS mX3_bends d 4 [some (.ref a0), some (.int i1n4), some (.int i2n4)] [] V0 0 0 (fun r V => (fun r _ => ∃ y : Int32, r = some (.int y) ∧ ((-2147483648) ≤ y.toInt) ∧ (y.toInt ≤ 2147483647) ∧ (y.toInt = jbn S n.toInt.toNat)) r V ∧ V = V0) := by
    intro N
    induction N with
    | zero => intro i1n4 i2n4  hi2 hf hm; exact absurd hm (Nat.not_lt_zero _)
    | succ N ih =>
      intro i1n4 i2n4  hi2 hf hm
      have ih4 := ih
      have hri2 := j_rng i2n4
      have hjb := jbn_b (S := S) i2n4.toInt.toNat
      refine J_iload_n dX3_bends_4 rfl ?_
      refine J_aload_n dX3_bends_5 rfl ?_
      refine J_get jf_X3_15 dX3_bends_6 hO_a0 hF_n ?_
      refine Jz_icmp_ge (tgt := 36) jEq.rf jEq.rf dX3_bends_9 (by decide) (fun c9 => ?_) (fun c9 => ?_)
      · refine J_iload_n dX3_bends_36 rfl ?_
        exact J_ret (r := some (.int _)) dX3_bends_37 ⟨rfl, _, rfl, rfl⟩ (⟨⟨_, rfl, (j_rng _).1, (j_rng _).2, (by rw [hf]; rcases (show i2n4.toInt.toNat = n.toInt.toNat ∨ (i2n4.toInt.toNat = 1 ∧ n.toInt.toNat = 0) by omega) with q | q; (rw [q]); (rw [q.1, q.2]; rfl))⟩, rfl⟩)
      · refine J_aload_n dX3_bends_12 rfl ?_
        refine J_iload_n dX3_bends_13 rfl ?_
        refine Jw_callV1 (q9 := (RX3, TX3, 7)) moX3_direction jw_ml_X3_89 jw_im_X3_direction jw_se_X3_direction ha0 rfl rfl dX3_bends_14 (w_X3_direction_z (d - 1) _ a0 i2n4 s S (by omega) hW  ha0 ⟨_, hO_a0, hF_s⟩ ha_S (by omega) (by omega) (by omega)) (by omega) (Nat.zero_le _) (Nat.zero_le _) (Nat.le_of_ble_eq_true rfl) (fun r14 V14 h14 => ?_)
        obtain ⟨⟨y14, rfl, hl14, hh14, hP14_0⟩, hE14⟩ := h14
        have hE14 := hE14.symm
        subst hE14
        clear hl14 hh14
        have hz14 : jEq y14.toInt ((S (i2n4.toInt).toNat).toInt) := hP14_0
        clear hP14_0
        refine J_aload_n dX3_bends_17 rfl ?_
        refine J_iload_n dX3_bends_18 rfl ?_
        refine Jz_iconst 1 dX3_bends_19 (by decide) (fun y19 he19 => ?_)
        refine Jz_isub jEq.rf he19 dX3_bends_20 (by omega) (by omega) (fun y20 he20 => ?_)
        refine Jw_callV1 (q9 := (RX3, TX3, 7)) moX3_direction jw_ml_X3_89 jw_im_X3_direction jw_se_X3_direction ha0 rfl rfl dX3_bends_21 (w_X3_direction_z (d - 1) _ a0 y20 s S (by omega) hW  ha0 ⟨_, hO_a0, hF_s⟩ ha_S (by (try simp only [he20.eq, true_and, and_true]) <;> omega) (by (try simp only [he20.eq, true_and, and_true]) <;> omega) (by omega)) (by omega) (Nat.zero_le _) (Nat.zero_le _) (Nat.le_of_ble_eq_true rfl) (fun r21 V21 h21 => ?_)
        obtain ⟨⟨y21, rfl, hl21, hh21, hP21_0⟩, hE21⟩ := h21
        have hE21 := hE21.symm
        subst hE21
        clear hl21 hh21
        try simp only [he20.eq] at hP21_0
        have hz21 : jEq y21.toInt ((S (i2n4.toInt - 1).toNat).toInt) := hP21_0
        clear hP21_0
        refine Jz_icmp_eq (tgt := 30) hz14 hz21 dX3_bends_24 (by decide) (fun c24 => ?_) (fun c24 => ?_)
        · refine Jz_iinc 1 dX3_bends_30 rfl rfl (by decide) jEq.rf (by decide) (by omega) (by omega) (fun y30 he30 => ?_)
          refine J_goto (tgt := 4) dX3_bends_33 (by decide) ?_
          refine J.mask [true, true, true] ?_
          exact ih4  i1n4 y30  (by (try simp only [he30.eq, true_and, and_true]) <;> omega) (by rw [he30.eq, show (i2n4.toInt + 1).toNat = i2n4.toInt.toNat + 1 by omega, jbn_step (by omega), if_pos (by rw [show i2n4.toInt.toNat - 1 = (i2n4.toInt - 1).toNat by omega]; exact c24)]; omega) (by (try simp only [he30.eq, true_and, and_true]) <;> omega)
        · refine Jz_iinc 1 dX3_bends_27 rfl rfl (by decide) jEq.rf (by decide) (by omega) (by omega) (fun y27 he27 => ?_)
          refine Jz_iinc 1 dX3_bends_30 rfl rfl (by decide) jEq.rf (by decide) (by omega) (by omega) (fun y30 he30 => ?_)
          refine J_goto (tgt := 4) dX3_bends_33 (by decide) ?_
          refine J.mask [true, true, true] ?_
          exact ih4  y27 y30  (by (try simp only [he27.eq, he30.eq, true_and, and_true]) <;> omega) (by rw [he30.eq, show (i2n4.toInt + 1).toNat = i2n4.toInt.toNat + 1 by omega, jbn_step (by omega), if_neg (by rw [show i2n4.toInt.toNat - 1 = (i2n4.toInt - 1).toNat by omega]; exact c24), he27.eq, hf]) (by (try simp only [he27.eq, he30.eq, true_and, and_true]) <;> omega)
  refine J.mask [true, true, true] ?_
  exact L4 _  y0 y2    (by rw [he2.eq]; exact ⟨Int.le_refl _, Or.inr rfl⟩) (by rw [he0.eq, he2.eq]; rfl) (Nat.lt_succ_self _)
