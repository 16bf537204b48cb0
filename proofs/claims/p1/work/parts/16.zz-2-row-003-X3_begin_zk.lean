set_option maxRecDepth 100000 in
set_option maxHeartbeats 8000000 in
theorem w_X3_begin_zk {tS : jTS} (d : Nat) (V0 : jH) {l1 l2 l3 l4 : Nat} (a0 : Nat) (x1 : Int32) (M : Int32) (n : Int32) (s : Nat) (xx : Nat) (yy : Nat) (zz : Nat) (S : Nat → Int32) (X : Nat → Int32) (Y : Nat → Int32) (Z : Nat → Int32) (hd : 0 ≤ d) (hW : WT V0) (ha0 : jis V0 (.inr 1) a0) (hf_M : jfI V0 a0 1 0 M) (hf_n : jfI V0 a0 1 6 n) (hr_s : jfR V0 a0 1 1 s) (hr_xx : jfR V0 a0 1 2 xx) (hr_yy : jfR V0 a0 1 3 yy) (hr_zz : jfR V0 a0 1 4 zz) (ha_S : V0 s = some (.inl (6, l1, .inl S))) (ha_X : V0 xx = some (.inl (34, l2, .inl X))) (ha_Y : V0 yy = some (.inl (35, l3, .inl Y))) (ha_Z : V0 zz = some (.inl (36, l4, .inl Z))) : jTot tS mX3_begin d [.ref a0, .int x1] V0 0 0 (fun r V => (jPost [.inr 1] V0 rV) r V ∧ jrk a0 V0 V ∧ (∃ M2 : Int32, jfI V a0 1 0 M2 ∧ (M2.toInt = M.toInt)) ∧ (∃ g2 : Int32, jfI V a0 1 5 g2 ∧ (g2.toInt = x1.toInt)) ∧ (∃ n2 : Int32, jfI V a0 1 6 n2 ∧ (n2.toInt = 0))) := by
  refine jTot.of_J [some (.ref a0), some (.int x1)] moX3_begin (Nat.le_of_ble_eq_true rfl) rfl ?_
  have hrx1 := j_rng x1
  have he : jeff [.inr 1] V0 V0 := jeff.refl _ _
  have hfp : jfp [a0, s, xx, yy, zz] V0 V0 := jfp.rf
  obtain ⟨fs_a0, hO_a0, hK_a0⟩ := WT_obj hW id ha0
  have hF_M := hf_M.get hO_a0
  have hrM : 0 ≤ M.toInt ∧ M.toInt ≤ 120 := jok_rngI hK_a0 rfl hF_M
  have hF_n := hf_n.get hO_a0
  have hrn : 0 ≤ n.toInt ∧ n.toInt ≤ 120 := jok_rngI hK_a0 rfl hF_n
  have hF_s := hr_s.get hO_a0
  obtain ⟨w_s, hFq_s, b_s, hbq_s, hb_s⟩ := hK_a0.2 1 (.inr (some (.inl 6))) rfl
  cases hF_s.symm.trans (hFq_s.trans (congrArg some hbq_s))
  have hF_xx := hr_xx.get hO_a0
  obtain ⟨w_xx, hFq_xx, b_xx, hbq_xx, hb_xx⟩ := hK_a0.2 2 (.inr (some (.inl 34))) rfl
  cases hF_xx.symm.trans (hFq_xx.trans (congrArg some hbq_xx))
  have hF_yy := hr_yy.get hO_a0
  obtain ⟨w_yy, hFq_yy, b_yy, hbq_yy, hb_yy⟩ := hK_a0.2 3 (.inr (some (.inl 35))) rfl
  cases hF_yy.symm.trans (hFq_yy.trans (congrArg some hbq_yy))
  have hF_zz := hr_zz.get hO_a0
  obtain ⟨w_zz, hFq_zz, b_zz, hbq_zz, hb_zz⟩ := hK_a0.2 4 (.inr (some (.inl 36))) rfl
  cases hF_zz.symm.trans (hFq_zz.trans (congrArg some hbq_zz))
  obtain ⟨hN_S, hv_S⟩ := WT_rngI (r := ((-2147483648), 2147483647)) hW id rfl ha_S
  clear hN_S
  obtain ⟨hN_X, hv_X⟩ := WT_rngI (r := ((-2147483648), 2147483647)) hW id rfl ha_X
  clear hN_X
  obtain ⟨hN_Y, hv_Y⟩ := WT_rngI (r := ((-2147483648), 2147483647)) hW id rfl ha_Y
  clear hN_Y
  obtain ⟨hN_Z, hv_Z⟩ := WT_rngI (r := ((-2147483648), 2147483647)) hW id rfl ha_Z
  clear hN_Z
  have ha0_S := ha_S
  have ha0_X := ha_X
  have ha0_Y := ha_Y
  have ha0_Z := ha_Z
  refine J_aload_n dX3_begin_0 rfl ?_
  refine J_iload_n dX3_begin_1 rfl ?_
  refine Jz_putI hO_a0 hW id rfl jf_X3_9 jt_X3_5 jEq.rf dX3_begin_2 (j_rng _).1 (j_rng _).2 (fun _ _ => ⟨rfl, rfl⟩) (fun V2 fs2 hW hx2 hO2 hS2 hT2 hB2 => ?_)
  have hK2 : jokO _ (jFs 1) fs2 := hW _ _ id hO2
  have hF2_0 := (hT2 0 (by decide)).trans hF_M
  have hF2_6 := (hT2 6 (by decide)).trans hF_n
  have hF2_1 := (hT2 1 (by decide)).trans hF_s
  have hF2_2 := (hT2 2 (by decide)).trans hF_xx
  have hF2_3 := (hT2 3 (by decide)).trans hF_yy
  have hF2_4 := (hT2 4 (by decide)).trans hF_zz
  have he := he.trans (hx2.sub (jsub_of rfl))
  have hfp := hfp.trans (jfp.one hB2 List.mem_cons_self)
  have ha0 := ha0.mono hx2.1
  have hb_s := hb_s.mono hx2.1
  have hb_xx := hb_xx.mono hx2.1
  have hb_yy := hb_yy.mono hx2.1
  have hb_zz := hb_zz.mono hx2.1
  have ha_S := hx2.2 _ _ ha_S (jnot_of rfl)
  have ha_X := hx2.2 _ _ ha_X (jnot_of rfl)
  have ha_Y := hx2.2 _ _ ha_Y (jnot_of rfl)
  have ha_Z := hx2.2 _ _ ha_Z (jnot_of rfl)
  refine J_aload_n dX3_begin_5 rfl ?_
  refine Jz_iconst 0 dX3_begin_6 (by decide) (fun y6 he6 => ?_)
  refine Jz_putI hO2 hW id rfl jf_X3_15 jt_X3_6 he6 dX3_begin_7 (by omega) (by omega) (fun _ _ => ⟨rfl, rfl⟩) (fun V7 fs7 hW hx7 hO7 hS7 hT7 hB7 => ?_)
  have hK7 : jokO _ (jFs 1) fs7 := hW _ _ id hO7
  have hF7_5 := (hT7 5 (by decide)).trans hS2
  have hF7_0 := (hT7 0 (by decide)).trans hF2_0
  have hF7_1 := (hT7 1 (by decide)).trans hF2_1
  have hF7_2 := (hT7 2 (by decide)).trans hF2_2
  have hF7_3 := (hT7 3 (by decide)).trans hF2_3
  have hF7_4 := (hT7 4 (by decide)).trans hF2_4
  have he := he.trans (hx7.sub (jsub_of rfl))
  have hfp := hfp.trans (jfp.one hB7 List.mem_cons_self)
  have ha0 := ha0.mono hx7.1
  have hb_s := hb_s.mono hx7.1
  have hb_xx := hb_xx.mono hx7.1
  have hb_yy := hb_yy.mono hx7.1
  have hb_zz := hb_zz.mono hx7.1
  have ha_S := hx7.2 _ _ ha_S (jnot_of rfl)
  have ha_X := hx7.2 _ _ ha_X (jnot_of rfl)
  have ha_Y := hx7.2 _ _ ha_Y (jnot_of rfl)
  have ha_Z := hx7.2 _ _ ha_Z (jnot_of rfl)
  exact J_ret (r := none) dX3_begin_10 ⟨rfl, rfl⟩ (⟨⟨hW, he, rfl⟩, (jrk.mk hr_s hr_xx hr_yy hr_zz hfp hf_M ⟨_, hO7, hF7_0⟩ (jk1.mk ha0_S ha_S) (jk0.mk ha0_X ha_X rfl) (jk0.mk ha0_Y ha_Y rfl) (jk0.mk ha0_Z ha_Z rfl)), ⟨_, ⟨_, hO7, hF7_0⟩, (by omega)⟩, ⟨_, ⟨_, hO7, hF7_5⟩, (by omega)⟩, ⟨_, ⟨_, hO7, hS7⟩, (by (try simp only [he6.eq, true_and, and_true]) <;> omega)⟩⟩)
