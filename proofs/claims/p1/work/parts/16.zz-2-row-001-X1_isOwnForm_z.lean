set_option maxRecDepth 100000 in
set_option maxHeartbeats 8000000 in
theorem w_X1_isOwnForm_z {tS : jTS} (d : Nat) (V0 : jH) {ln : Nat} (a0 : Nat) (M : Int32) (g : Int32) (n : Int32) (s : Nat) (xx : Nat) (yy : Nat) (zz : Nat) (S : Nat → Int32) (X : Nat → Int32) (Y : Nat → Int32) (Z : Nat → Int32) (hd : 4 ≤ d) (hW : WT V0) (ha0 : jis V0 (.inr 1) a0) (hf_M : jfI V0 a0 1 0 M) (hf_g : jfI V0 a0 1 5 g) (hf_n : jfI V0 a0 1 6 n) (hr_s : jfR V0 a0 1 1 s) (hr_xx : jfR V0 a0 1 2 xx) (hr_yy : jfR V0 a0 1 3 yy) (hr_zz : jfR V0 a0 1 4 zz) (ha_S : V0 s = some (.inl (6, ln, .inl S))) (ha_X : V0 xx = some (.inl (34, ln + 1, .inl X))) (ha_Y : V0 yy = some (.inl (35, ln + 1, .inl Y))) (ha_Z : V0 zz = some (.inl (36, ln + 1, .inl Z))) (hp0 : M.toInt = (ln : Int)) (hp1 : (ln : Int) ≤ 120) (hp2 : n.toInt ≤ M.toInt) (hp3 : 0 ≤ g.toInt) (hp4 : g.toInt ≤ 3) (hp5 : ∀ j : Nat, (j : Int) < n.toInt → 0 ≤ (S j).toInt ∧ (S j).toInt < jdir g.toInt) (hp6 : n.toInt ≤ 60) : jTot tS mX1_isOwnForm d [.ref a0] V0 0 0 (fun r V => (fun r _ => ∃ y : Int32, r = some (.int y) ∧ (0 ≤ y.toInt) ∧ (y.toInt ≤ 1) ∧ ((y.toInt = 1 ∧ jow g.toInt (fun q => (S q).toInt) n.toInt.toNat) ∨ (y.toInt = 0 ∧ ¬ jow g.toInt (fun q => (S q).toInt) n.toInt.toNat))) r V ∧ V = V0) := by
  refine jTot.of_J [some (.ref a0), none] moX1_isOwnForm (Nat.le_of_ble_eq_true rfl) rfl ?_
  have he : jeff [] V0 V0 := jeff.refl _ _
  obtain ⟨fs_a0, hO_a0, hK_a0⟩ := WT_obj hW id ha0
  have hF_M := hf_M.get hO_a0
  have hrM : 0 ≤ M.toInt ∧ M.toInt ≤ 120 := jok_rngI hK_a0 rfl hF_M
  have hF_g := hf_g.get hO_a0
  have hrg : (-2147483648) ≤ g.toInt ∧ g.toInt ≤ 2147483647 := jok_rngI hK_a0 rfl hF_g
  have hF_n := hf_n.get hO_a0
  have hrn : 0 ≤ n.toInt ∧ n.toInt ≤ 120 := jok_rngI hK_a0 rfl hF_n
  have hF_s := hr_s.get hO_a0
  obtain ⟨w_s, hFq_s, b_s, hbq_s, hb_s⟩ := hK_a0.2 1 (.inr (some (.inl 6))) rfl
  cases hF_s.symm.trans (hFq_s.trans (congrArg some hbq_s))
  have hF_xx := hr_xx.get hO_a0
  obtain ⟨w_xx, hFq_xx, b_xx, hbq_xx, hb_xx⟩ := hK_a0.2 2 (.inr (some (.inl 34))) rfl
  cases hF_xx.symm.trans (hFq_xx.trans (congrArg some hbq_xx))
  have hF_yy := hr_yy.get hO_a0
  obtain ⟨w_yy, hFq_yy, b_yy, hbq_yy, hb_yy⟩ := hK_a0.2 3 (.inr (some (.inl 35))) rfl
  cases hF_yy.symm.trans (hFq_yy.trans (congrArg some hbq_yy))
  have hF_zz := hr_zz.get hO_a0
  obtain ⟨w_zz, hFq_zz, b_zz, hbq_zz, hb_zz⟩ := hK_a0.2 4 (.inr (some (.inl 36))) rfl
  cases hF_zz.symm.trans (hFq_zz.trans (congrArg some hbq_zz))
  obtain ⟨hN_S, hv_S⟩ := WT_rngI (r := ((-2147483648), 2147483647)) hW id rfl ha_S
  clear hN_S
  obtain ⟨hN_X, hv_X⟩ := WT_rngI (r := ((-2147483648), 2147483647)) hW id rfl ha_X
  clear hN_X
  obtain ⟨hN_Y, hv_Y⟩ := WT_rngI (r := ((-2147483648), 2147483647)) hW id rfl ha_Y
  clear hN_Y
  obtain ⟨hN_Z, hv_Z⟩ := WT_rngI (r := ((-2147483648), 2147483647)) hW id rfl ha_Z
  clear hN_Z
  have htc := jtur_cases g.toInt
  have hjd := jdir_cases g.toInt
  refine Jz_iconst 0 dX1_isOwnForm_0 (by decide) (fun y0 he0 => ?_)
  refine J_istore_n dX1_isOwnForm_1 rfl (by decide) ?_
  have L2 : ∀ (N : Nat) (i1n2 : Int32), (0 ≤ i1n2.toInt ∧ i1n2.toInt ≤ jtur g.toInt) → (∀ k : Nat, (k : Int) < 2 * i1n2.toInt → ¬ jlx n.toInt.toNat (jim g.toInt (fun q => (S q).toInt) n.toInt.toNat ((k / 2 : Nat) : Int) (decide (k % 2 = 1))) (fun q => (S q).toInt)) → (300 - i1n2.toInt).toNat < N → J tS mX1_isOwnForm d 2 [some (.ref a0), some (.int i1n2)] [] V0 0 0 (fun r V => (fun r _ => ∃ y : Int32, r = some (.int y) ∧ (0 ≤ y.toInt) ∧ (y.toInt ≤ 1) ∧ ((y.toInt = 1 ∧ jow g.toInt (fun q => (S q).toInt) n.toInt.toNat) ∨ (y.toInt = 0 ∧ ¬ jow g.toInt (fun q => (S q).toInt) n.toInt.toNat))) r V ∧ V = V0) := by
    intro N
    induction N with
    | zero => intro i1n2  ht how hm; exact absurd hm (Nat.not_lt_zero _)
    | succ N ih =>
      intro i1n2  ht how hm
      have ih2 := ih
      have hri1 := j_rng i1n2
      refine J_iload_n dX1_isOwnForm_2 rfl ?_
      refine J_aload_n dX1_isOwnForm_3 rfl ?_
      refine J_get jf_X1_23 dX1_isOwnForm_4 hO_a0 hF_g ?_
      refine J_callS1 moX0_turns jw_ml_X1_26 jw_st_X0_turns dX1_isOwnForm_7 (w_X0_turns_z (d - 1) _ g (by omega)   (by omega) (by omega)) (by omega) (Nat.zero_le _) (Nat.zero_le _) (Nat.le_of_ble_eq_true rfl) (fun r7 V7 h7 => ?_)
      obtain ⟨⟨y7, rfl, hl7, hh7, hP7_0⟩, hE7⟩ := h7
      have hE7 := hE7.symm
      subst hE7
      clear hl7 hh7
      have hz7 : jEq y7.toInt (jtur (g.toInt)) := hP7_0
      clear hP7_0
      refine Jz_icmp_ge (tgt := 47) jEq.rf hz7 dX1_isOwnForm_10 (by decide) (fun c10 => ?_) (fun c10 => ?_)
      · refine Jz_iconst 1 dX1_isOwnForm_47 (by decide) (fun y47 he47 => ?_)
        exact J_ret (r := some (.int _)) dX1_isOwnForm_48 ⟨rfl, _, rfl, (nar_b (by (try simp only [he47.eq, true_and, and_true]) <;> omega) (by (try simp only [he47.eq, true_and, and_true]) <;> omega))⟩ (⟨⟨_, rfl, (by (try simp only [he47.eq, true_and, and_true]) <;> omega), (by (try simp only [he47.eq, true_and, and_true]) <;> omega), (Or.inl ⟨he47.eq, fun k hk => how k (by omega)⟩)⟩, rfl⟩)
      · refine J_aload_n dX1_isOwnForm_13 rfl ?_
        refine J_iload_n dX1_isOwnForm_14 rfl ?_
        refine Jz_iconst 0 dX1_isOwnForm_15 (by decide) (fun y15 he15 => ?_)
        refine J_aload_n dX1_isOwnForm_16 rfl ?_
        refine J_get jf_X1_57 dX1_isOwnForm_17 hO_a0 hF_s ?_
        refine J_callS4 moX1_isBelow jw_ml_X1_37 jw_st_X1_isBelow dX1_isOwnForm_20 (w_X1_isBelow_s (d - 1) _ a0 i1n2 y15 s M g n s xx yy zz S X Y Z S (by omega) hW  ha0 (by (try simp only [he15.eq, true_and, and_true]) <;> omega) (by (try simp only [he15.eq, true_and, and_true]) <;> omega) hb_s ⟨_, hO_a0, hF_M⟩ ⟨_, hO_a0, hF_g⟩ ⟨_, hO_a0, hF_n⟩ ⟨_, hO_a0, hF_s⟩ ⟨_, hO_a0, hF_xx⟩ ⟨_, hO_a0, hF_yy⟩ ⟨_, hO_a0, hF_zz⟩ ha_S ha_X ha_Y ha_Z ha_S (by omega) (by omega) (by omega) (by omega) (by omega) (by omega) (by omega) hp5 (by omega) hp5) (by omega) (Nat.zero_le _) (Nat.zero_le _) (Nat.le_of_ble_eq_true rfl) (fun r20 V20 h20 => ?_)
        obtain ⟨⟨y20, rfl, hl20, hh20, hP20_0⟩, hE20⟩ := h20
        have hE20 := hE20.symm
        subst hE20
        try simp only [he15.eq] at hP20_0
        refine Jz_if_ne (tgt := 39) jEq.rf dX1_isOwnForm_23 (by decide) (fun c23 => ?_) (fun c23 => ?_)
        · refine Jz_iconst 0 dX1_isOwnForm_39 (by decide) (fun y39 he39 => ?_)
          exact J_ret (r := some (.int _)) dX1_isOwnForm_40 ⟨rfl, _, rfl, (nar_b (by (try simp only [he39.eq, true_and, and_true]) <;> omega) (by (try simp only [he39.eq, true_and, and_true]) <;> omega))⟩ (⟨⟨_, rfl, (by (try simp only [he39.eq, true_and, and_true]) <;> omega), (by (try simp only [he39.eq, true_and, and_true]) <;> omega), (Or.inr ⟨he39.eq, jow.no (2 * i1n2.toInt.toNat) (by omega) (decide_eq_false (by omega)) (by omega) (hP20_0.elim (fun q => q.2) (fun q => absurd q.1 (by omega)))⟩)⟩, rfl⟩)
        · refine J_aload_n dX1_isOwnForm_26 rfl ?_
          refine J_iload_n dX1_isOwnForm_27 rfl ?_
          refine Jz_iconst 1 dX1_isOwnForm_28 (by decide) (fun y28 he28 => ?_)
          refine J_aload_n dX1_isOwnForm_29 rfl ?_
          refine J_get jf_X1_57 dX1_isOwnForm_30 hO_a0 hF_s ?_
          refine J_callS4 moX1_isBelow jw_ml_X1_37 jw_st_X1_isBelow dX1_isOwnForm_33 (w_X1_isBelow_s (d - 1) _ a0 i1n2 y28 s M g n s xx yy zz S X Y Z S (by omega) hW  ha0 (by (try simp only [he28.eq, true_and, and_true]) <;> omega) (by (try simp only [he28.eq, true_and, and_true]) <;> omega) hb_s ⟨_, hO_a0, hF_M⟩ ⟨_, hO_a0, hF_g⟩ ⟨_, hO_a0, hF_n⟩ ⟨_, hO_a0, hF_s⟩ ⟨_, hO_a0, hF_xx⟩ ⟨_, hO_a0, hF_yy⟩ ⟨_, hO_a0, hF_zz⟩ ha_S ha_X ha_Y ha_Z ha_S (by omega) (by omega) (by omega) (by omega) (by omega) (by omega) (by omega) hp5 (by omega) hp5) (by omega) (Nat.zero_le _) (Nat.zero_le _) (Nat.le_of_ble_eq_true rfl) (fun r33 V33 h33 => ?_)
          obtain ⟨⟨y33, rfl, hl33, hh33, hP33_0⟩, hE33⟩ := h33
          have hE33 := hE33.symm
          subst hE33
          try simp only [he28.eq] at hP33_0
          refine Jz_if_eq (tgt := 41) jEq.rf dX1_isOwnForm_36 (by decide) (fun c36 => ?_) (fun c36 => ?_)
          · refine Jz_iinc 1 dX1_isOwnForm_41 rfl rfl (by decide) jEq.rf (by decide) (by omega) (by omega) (fun y41 he41 => ?_)
            refine J_goto (tgt := 2) dX1_isOwnForm_44 (by decide) ?_
            refine J.mask [true, true] ?_
            exact ih2  y41  (by (try simp only [he41.eq, true_and, and_true]) <;> omega) (by rw [he41.eq]; exact jow.step (by omega) how (hP20_0.elim (fun q => absurd q.1 (by omega)) (fun q => q.2)) (hP33_0.elim (fun q => absurd q.1 (by omega)) (fun q => q.2))) (by (try simp only [he41.eq, true_and, and_true]) <;> omega)
          · refine Jz_iconst 0 dX1_isOwnForm_39 (by decide) (fun y39 he39 => ?_)
            exact J_ret (r := some (.int _)) dX1_isOwnForm_40 ⟨rfl, _, rfl, (nar_b (by (try simp only [he39.eq, true_and, and_true]) <;> omega) (by (try simp only [he39.eq, true_and, and_true]) <;> omega))⟩ (⟨⟨_, rfl, (by (try simp only [he39.eq, true_and, and_true]) <;> omega), (by (try simp only [he39.eq, true_and, and_true]) <;> omega), (Or.inr ⟨he39.eq, jow.no (2 * i1n2.toInt.toNat + 1) (by omega) (decide_eq_true (by omega)) (by omega) (hP33_0.elim (fun q => q.2) (fun q => absurd q.1 (by omega)))⟩)⟩, rfl⟩)
  refine J.mask [true, true] ?_
  exact L2 _  y0    (by (try simp only [he0.eq, true_and, and_true]) <;> omega) (fun k hk => absurd hk (by rw [he0.eq]; omega)) (Nat.lt_succ_self _)
