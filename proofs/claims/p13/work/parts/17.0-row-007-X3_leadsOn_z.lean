set_option maxRecDepth 100000 in
set_option maxHeartbeats 8000000 in
theorem w_X3_leadsOn_z {tS : jTS} (d : Nat) (V0 : jH) {ln : Nat} (a0 : Nat) (M : Int32) (g : Int32) (n : Int32) (s : Nat) (xx : Nat) (yy : Nat) (zz : Nat) (S : Nat → Int32) (X : Nat → Int32) (Y : Nat → Int32) (Z : Nat → Int32) (hd : 3 ≤ d) (hW : WT V0) (ha0 : jis V0 (.inr 1) a0) (hf_M : jfI V0 a0 1 0 M) (hf_g : jfI V0 a0 1 5 g) (hf_n : jfI V0 a0 1 6 n) (hr_s : jfR V0 a0 1 1 s) (hr_xx : jfR V0 a0 1 2 xx) (hr_yy : jfR V0 a0 1 3 yy) (hr_zz : jfR V0 a0 1 4 zz) (ha_S : V0 s = some (.inl (6, ln, .inl S))) (ha_X : V0 xx = some (.inl (34, ln + 1, .inl X))) (ha_Y : V0 yy = some (.inl (35, ln + 1, .inl Y))) (ha_Z : V0 zz = some (.inl (36, ln + 1, .inl Z))) (hp0 : M.toInt = (ln : Int)) (hp1 : (ln : Int) ≤ 120) (hp2 : n.toInt ≤ M.toInt) (hp3 : 0 ≤ g.toInt) (hp4 : g.toInt ≤ 3) (hp5 : -120 ≤ (X n.toInt.toNat).toInt) (hp6 : (X n.toInt.toNat).toInt ≤ 120) (hp7 : -120 ≤ (Y n.toInt.toNat).toInt) (hp8 : (Y n.toInt.toNat).toInt ≤ 120) (hp9 : -120 ≤ (Z n.toInt.toNat).toInt) (hp10 : (Z n.toInt.toNat).toInt ≤ 120) : jTot tS mX3_leadsOn d [.ref a0] V0 0 0 (fun r V => (fun r _ => ∃ y : Int32, r = some (.int y) ∧ ((-2147483648) ≤ y.toInt) ∧ (y.toInt ≤ 2147483647) ∧ (y.toInt = jct (fun d : Nat => jfree g.toInt n.toInt.toNat X Y Z (d : Int)) (jdir g.toInt).toNat)) r V ∧ V = V0) := by
  refine jTot.of_J [some (.ref a0), none, none] moX3_leadsOn (Nat.le_of_ble_eq_true rfl) rfl ?_
  have he : jeff [] V0 V0 := jeff.refl _ _
  obtain ⟨fs_a0, hO_a0, hK_a0⟩ := WT_obj hW id ha0
  have hF_M := hf_M.get hO_a0
  have hrM : 0 ≤ M.toInt ∧ M.toInt ≤ 120 := jok_rngI hK_a0 rfl hF_M
  have hF_g := hf_g.get hO_a0
  have hrg : (-2147483648) ≤ g.toInt ∧ g.toInt ≤ 2147483647 := jok_rngI hK_a0 rfl hF_g
  have hF_n := hf_n.get hO_a0
  have hrn : 0 ≤ n.toInt ∧ n.toInt ≤ 120 := jok_rngI hK_a0 rfl hF_n
  have hF_s := hr_s.get hO_a0
  obtain ⟨w_s, hFq_s, b_s, hbq_s, hb_s⟩ := hK_a0.2 1 (.inr (some (.inl 6))) rfl
  cases hF_s.symm.trans (hFq_s.trans (congrArg some hbq_s))
  have hF_xx := hr_xx.get hO_a0
  obtain ⟨w_xx, hFq_xx, b_xx, hbq_xx, hb_xx⟩ := hK_a0.2 2 (.inr (some (.inl 34))) rfl
  cases hF_xx.symm.trans (hFq_xx.trans (congrArg some hbq_xx))
  have hF_yy := hr_yy.get hO_a0
  obtain ⟨w_yy, hFq_yy, b_yy, hbq_yy, hb_yy⟩ := hK_a0.2 3 (.inr (some (.inl 35))) rfl
  cases hF_yy.symm.trans (hFq_yy.trans (congrArg some hbq_yy))
  have hF_zz := hr_zz.get hO_a0
  obtain ⟨w_zz, hFq_zz, b_zz, hbq_zz, hb_zz⟩ := hK_a0.2 4 (.inr (some (.inl 36))) rfl
  cases hF_zz.symm.trans (hFq_zz.trans (congrArg some hbq_zz))
  obtain ⟨hN_S, hv_S⟩ := WT_rngI (r := ((-2147483648), 2147483647)) hW id rfl ha_S
  clear hN_S
  obtain ⟨hN_X, hv_X⟩ := WT_rngI (r := ((-2147483648), 2147483647)) hW id rfl ha_X
  clear hN_X
  obtain ⟨hN_Y, hv_Y⟩ := WT_rngI (r := ((-2147483648), 2147483647)) hW id rfl ha_Y
  clear hN_Y
  obtain ⟨hN_Z, hv_Z⟩ := WT_rngI (r := ((-2147483648), 2147483647)) hW id rfl ha_Z
  clear hN_Z
  have hjd := jdir_cases g.toInt
  refine Jz_iconst 0 dX3_leadsOn_0 (by decide) (fun y0 he0 => ?_)
  refine J_istore_n dX3_leadsOn_1 rfl (by decide) ?_
  refine Jz_iconst 0 dX3_leadsOn_2 (by decide) (fun y2 he2 => ?_)
  refine J_istore_n dX3_leadsOn_3 rfl (by decide) ?_
  have L4 : ∀ (N : Nat) (i1n4 : Int32) (i2n4 : Int32), (0 ≤ i2n4.toInt ∧ i2n4.toInt ≤ jdir g.toInt) → (i1n4.toInt = jct (fun d : Nat => jfree g.toInt n.toInt.toNat X Y Z (d : Int)) i2n4.toInt.toNat) → (300 - i2n4.toInt).toNat < N → J tS mX3_leadsOn d 4 [some (.ref a0), some (.int i1n4), some (.int i2n4)] [] V0 0 0 (fun r V => (fun r _ => ∃ y : Int32, r = some (.int y) ∧ ((-2147483648) ≤ y.toInt) ∧ (y.toInt ≤ 2147483647) ∧ (y.toInt = jct (fun d : Nat => jfree g.toInt n.toInt.toNat X Y Z (d : Int)) (jdir g.toInt).toNat)) r V ∧ V = V0) := by
    intro N
    induction N with
    | zero => intro i1n4 i2n4  hi2 hc hm; exact absurd hm (Nat.not_lt_zero _)
    | succ N ih =>
      intro i1n4 i2n4  hi2 hc hm
      have ih4 := ih
      have hri2 := j_rng i2n4
      have hjb := jct_b (P := (fun d : Nat => jfree g.toInt n.toInt.toNat X Y Z (d : Int))) i2n4.toInt.toNat
      refine J_iload_n dX3_leadsOn_4 rfl ?_
      refine J_aload_n dX3_leadsOn_5 rfl ?_
      refine J_get jf_X3_9 dX3_leadsOn_6 hO_a0 hF_g ?_
      refine J_callS1 moX0_directions jw_ml_X3_92 jw_st_X0_directions dX3_leadsOn_9 (w_X0_directions_z (d - 1) _ g (by omega)   ) (by omega) (Nat.zero_le _) (Nat.zero_le _) (Nat.le_of_ble_eq_true rfl) (fun r9 V9 h9 => ?_)
      obtain ⟨⟨y9, rfl, hl9, hh9, hP9_0⟩, hE9⟩ := h9
      have hE9 := hE9.symm
      subst hE9
      have hz9 : jEq y9.toInt (jdir (g.toInt)) := hP9_0
      simp only [hP9_0] at hl9 hh9
      clear hP9_0
      refine Jz_icmp_ge (tgt := 32) jEq.rf hz9 dX3_leadsOn_12 (by decide) (fun c12 => ?_) (fun c12 => ?_)
      · refine J_iload_n dX3_leadsOn_32 rfl ?_
        exact J_ret (r := some (.int _)) dX3_leadsOn_33 ⟨rfl, _, rfl, rfl⟩ (⟨⟨_, rfl, (j_rng _).1, (j_rng _).2, (by rw [hc, show i2n4.toInt.toNat = (jdir g.toInt).toNat by omega])⟩, rfl⟩)
      · refine J_aload_n dX3_leadsOn_15 rfl ?_
        refine J_iload_n dX3_leadsOn_16 rfl ?_
        refine Jw_callV1 (q9 := (RX3, TX3, 7)) moX3_leads jw_ml_X3_73 jw_im_X3_leads jw_se_X3_leads ha0 rfl rfl dX3_leadsOn_17 (w_X3_leads_z (d - 1) _ a0 i2n4 M g n s xx yy zz S X Y Z (by omega) hW  ha0 ⟨_, hO_a0, hF_M⟩ ⟨_, hO_a0, hF_g⟩ ⟨_, hO_a0, hF_n⟩ ⟨_, hO_a0, hF_s⟩ ⟨_, hO_a0, hF_xx⟩ ⟨_, hO_a0, hF_yy⟩ ⟨_, hO_a0, hF_zz⟩ ha_S ha_X ha_Y ha_Z (by omega) (by omega) (by omega) (by omega) (by omega) (by omega) (by omega) (by omega) (by omega) (by omega) (by omega) (by omega) (by omega)) (by omega) (Nat.zero_le _) (Nat.zero_le _) (Nat.le_of_ble_eq_true rfl) (fun r17 V17 h17 => ?_)
        obtain ⟨⟨y17, rfl, hl17, hh17, hI17_0, hI17_1⟩, hE17⟩ := h17
        have hE17 := hE17.symm
        subst hE17
        refine Jz_if_eq (tgt := 26) jEq.rf dX3_leadsOn_20 (by decide) (fun c20 => ?_) (fun c20 => ?_)
        · have q20_1 := hI17_1.of (by omega)
          refine Jz_iinc 1 dX3_leadsOn_26 rfl rfl (by decide) jEq.rf (by decide) (by omega) (by omega) (fun y26 he26 => ?_)
          refine J_goto (tgt := 4) dX3_leadsOn_29 (by decide) ?_
          refine J.mask [true, true, true] ?_
          exact ih4  i1n4 y26  (by (try simp only [he26.eq, true_and, and_true]) <;> omega) (by rw [he26.eq, show (i2n4.toInt + 1).toNat = i2n4.toInt.toNat + 1 by omega, jct_no (fun q => by obtain ⟨j, h1, h2⟩ := q20_1; exact q j (by omega) (by rw [Int.toNat_of_nonneg (a := i2n4.toInt) (by omega)]; exact h2))]; exact hc) (by (try simp only [he26.eq, true_and, and_true]) <;> omega)
        · have q20_0 := hI17_0.of (by omega)
          refine Jz_iinc 1 dX3_leadsOn_23 rfl rfl (by decide) jEq.rf (by decide) (by omega) (by omega) (fun y23 he23 => ?_)
          refine Jz_iinc 1 dX3_leadsOn_26 rfl rfl (by decide) jEq.rf (by decide) (by omega) (by omega) (fun y26 he26 => ?_)
          refine J_goto (tgt := 4) dX3_leadsOn_29 (by decide) ?_
          refine J.mask [true, true, true] ?_
          exact ih4  y23 y26  (by (try simp only [he23.eq, he26.eq, true_and, and_true]) <;> omega) (by rw [he26.eq, show (i2n4.toInt + 1).toNat = i2n4.toInt.toNat + 1 by omega, jct_yes (fun j hj => by rw [Int.toNat_of_nonneg (a := i2n4.toInt) (by omega)]; exact q20_0 j (by omega)), he23.eq, hc]) (by (try simp only [he23.eq, he26.eq, true_and, and_true]) <;> omega)
  refine J.mask [true, true, true] ?_
  exact L4 _  y0 y2    (by (try simp only [he0.eq, he2.eq, true_and, and_true]) <;> omega) (by rw [he0.eq, he2.eq]; rfl) (Nat.lt_succ_self _)
