set_option maxRecDepth 100000 in
set_option maxHeartbeats 8000000 in
theorem w_X6_about_bad {tS : jTS} (d : Nat) (V0 : jH) (a0 : Nat) (x1 : Int32) (x2 : Int32) (k : Int32) (md : Nat) (f : Nat → Option Nat) (ro : Nat) (M : Int32) (g : Int32) (n : Int32) (s : Nat) (xx : Nat) (yy : Nat) (zz : Nat) (S : Nat → Int32) (X : Nat → Int32) (Y : Nat → Int32) (Z : Nat → Int32) (hd : 4 ≤ d) (hW : WT V0) (ha0 : jis V0 (.inr 4) a0) (hf_k : jfI V0 a0 4 1 k) (hr_md : jfR V0 a0 4 0 md) (ha_f : V0 md = some (.inl (4, 16, .inr (.inr (.inr (.inr f)))))) (hf_M : jfI V0 ro 1 0 M) (hf_g : jfI V0 ro 1 5 g) (hf_n : jfI V0 ro 1 6 n) (hr_s : jfR V0 ro 1 1 s) (hr_xx : jfR V0 ro 1 2 xx) (hr_yy : jfR V0 ro 1 3 yy) (hr_zz : jfR V0 ro 1 4 zz) (ha_S : V0 s = some (.inl (6, 60, .inl S))) (ha_X : V0 xx = some (.inl (34, 61, .inl X))) (ha_Y : V0 yy = some (.inl (35, 61, .inl Y))) (ha_Z : V0 zz = some (.inl (36, 61, .inl Z))) (hm_ro : M.toInt = 60) (hn_ro : n.toInt ≤ 60) (hfo : f x1.toInt.toNat = some ro) (hp0 : 0 ≤ x1.toInt) (hp1 : x1.toInt < k.toInt) (hp2 : ¬ (0 ≤ x2.toInt ∧ x2.toInt ≤ 7)) : jTot tS mX6_about d [.ref a0, .int x1, .int x2] V0 0 0 (fun r V => (fun r _ => ∃ y : Int32, r = some (.int y) ∧ ((-2147483648) ≤ y.toInt) ∧ (y.toInt ≤ 2147483647) ∧ (y.toInt = -2)) r V ∧ V = V0) := by
  refine jTot.of_J [some (.ref a0), some (.int x1), some (.int x2), none] moX6_about (Nat.le_of_ble_eq_true rfl) rfl ?_
  have hrx1 := j_rng x1
  have hrx2 := j_rng x2
  have he : jeff [] V0 V0 := jeff.refl _ _
  obtain ⟨fs_a0, hO_a0, hK_a0⟩ := WT_obj hW id ha0
  have hF_k := hf_k.get hO_a0
  have hrk : 0 ≤ k.toInt ∧ k.toInt ≤ 16 := jok_rngI hK_a0 rfl hF_k
  have hF_md := hr_md.get hO_a0
  obtain ⟨w_md, hFq_md, b_md, hbq_md, hb_md⟩ := hK_a0.2 0 (.inr (some (.inl 4))) rfl
  cases hF_md.symm.trans (hFq_md.trans (congrArg some hbq_md))
  have hb_ro : jis V0 (.inr 1) ro := by obtain ⟨q1, q2, q3⟩ := hf_M; exact ⟨_, q2, rfl⟩
  obtain ⟨fs_ro, hO_ro, hK_ro⟩ := WT_obj hW id hb_ro
  have hF_M := hf_M.get hO_ro
  have hrM : 0 ≤ M.toInt ∧ M.toInt ≤ 120 := jok_rngI hK_ro rfl hF_M
  have hF_g := hf_g.get hO_ro
  have hrg : (-2147483648) ≤ g.toInt ∧ g.toInt ≤ 2147483647 := jok_rngI hK_ro rfl hF_g
  have hF_n := hf_n.get hO_ro
  have hrn : 0 ≤ n.toInt ∧ n.toInt ≤ 120 := jok_rngI hK_ro rfl hF_n
  have hF_s := hr_s.get hO_ro
  have hb_s : jis V0 (.inl 6) s := ⟨_, ha_S, rfl⟩
  obtain ⟨hN_S, hv_S⟩ := WT_rngI (r := (-2147483648, 2147483647)) hW id rfl ha_S
  clear hN_S
  have hF_xx := hr_xx.get hO_ro
  have hb_xx : jis V0 (.inl 34) xx := ⟨_, ha_X, rfl⟩
  obtain ⟨hN_X, hv_X⟩ := WT_rngI (r := (-2147483648, 2147483647)) hW id rfl ha_X
  clear hN_X
  have hF_yy := hr_yy.get hO_ro
  have hb_yy : jis V0 (.inl 35) yy := ⟨_, ha_Y, rfl⟩
  obtain ⟨hN_Y, hv_Y⟩ := WT_rngI (r := (-2147483648, 2147483647)) hW id rfl ha_Y
  clear hN_Y
  have hF_zz := hr_zz.get hO_ro
  have hb_zz : jis V0 (.inl 36) zz := ⟨_, ha_Z, rfl⟩
  obtain ⟨hN_Z, hv_Z⟩ := WT_rngI (r := (-2147483648, 2147483647)) hW id rfl ha_Z
  clear hN_Z
  refine J_aload_n dX6_about_0 rfl ?_
  refine J_iload_n dX6_about_1 rfl ?_
  refine Jw_callV1 (q9 := (RX6, TX6, 7)) moX6_rowOf jw_ml_X6_55 jw_im_X6_rowOf jw_se_X6_rowOf ha0 rfl rfl dX6_about_2 (w_X6_rowOf_in (d - 1) _ a0 x1 hO_a0 hF_md hF_k ha_f (by omega) (by omega) (by omega) hfo) (by omega) (Nat.zero_le _) (Nat.zero_le _) (Nat.le_of_ble_eq_true rfl) (fun r2 V2 h2 => ?_)
  obtain ⟨rfl, hE2⟩ := h2
  have hE2 := hE2.symm
  subst hE2
  · refine J_astore_n dX6_about_5 rfl (by decide) ?_
    refine J_aload_n dX6_about_6 rfl ?_
    refine J_ifnonnull (tgt := 13) dX6_about_7 (by decide) ?_
    refine J_iload_n dX6_about_13 rfl ?_
    rcases jsw7 x2 with hx14 | hx14 | hx14 | hx14 | hx14 | hx14 | hx14 | hx14 | hx14 | hx14
    · have hx14t : x2.toInt = 0 := by rw [hx14]; rfl
      clear hx14
      refine J_tableIn (tgt := 60) dX6_about_14 (by omega) (by omega) (by rw [hx14t]; rfl) (by decide) ?_
      exact False.elim (by omega)
    · have hx14t : x2.toInt = 1 := by rw [hx14]; rfl
      clear hx14
      refine J_tableIn (tgt := 65) dX6_about_14 (by omega) (by omega) (by rw [hx14t]; rfl) (by decide) ?_
      exact False.elim (by omega)
    · have hx14t : x2.toInt = 2 := by rw [hx14]; rfl
      clear hx14
      refine J_tableIn (tgt := 70) dX6_about_14 (by omega) (by omega) (by rw [hx14t]; rfl) (by decide) ?_
      exact False.elim (by omega)
    · have hx14t : x2.toInt = 3 := by rw [hx14]; rfl
      clear hx14
      refine J_tableIn (tgt := 90) dX6_about_14 (by omega) (by omega) (by rw [hx14t]; rfl) (by decide) ?_
      exact False.elim (by omega)
    · have hx14t : x2.toInt = 4 := by rw [hx14]; rfl
      clear hx14
      refine J_tableIn (tgt := 103) dX6_about_14 (by omega) (by omega) (by rw [hx14t]; rfl) (by decide) ?_
      exact False.elim (by omega)
    · have hx14t : x2.toInt = 5 := by rw [hx14]; rfl
      clear hx14
      refine J_tableIn (tgt := 127) dX6_about_14 (by omega) (by omega) (by rw [hx14t]; rfl) (by decide) ?_
      exact False.elim (by omega)
    · have hx14t : x2.toInt = 6 := by rw [hx14]; rfl
      clear hx14
      refine J_tableIn (tgt := 132) dX6_about_14 (by omega) (by omega) (by rw [hx14t]; rfl) (by decide) ?_
      exact False.elim (by omega)
    · have hx14t : x2.toInt = 7 := by rw [hx14]; rfl
      clear hx14
      refine J_tableIn (tgt := 145) dX6_about_14 (by omega) (by omega) (by rw [hx14t]; rfl) (by decide) ?_
      exact False.elim (by omega)
    · refine J_tableOut (tgt := 150) dX6_about_14 (Or.inl hx14) (by decide) ?_
      refine Jz_bipush (-2) dX6_about_150 (by decide) (fun y150 he150 => ?_)
      exact J_ret (r := some (.int _)) dX6_about_152 ⟨rfl, _, rfl, rfl⟩ (⟨⟨_, rfl, (j_rng _).1, (j_rng _).2, (by (try simp only [he150.eq, true_and, and_true]) <;> omega)⟩, rfl⟩)
    · refine J_tableOut (tgt := 150) dX6_about_14 (Or.inr hx14) (by decide) ?_
      refine Jz_bipush (-2) dX6_about_150 (by decide) (fun y150 he150 => ?_)
      exact J_ret (r := some (.int _)) dX6_about_152 ⟨rfl, _, rfl, rfl⟩ (⟨⟨_, rfl, (j_rng _).1, (j_rng _).2, (by (try simp only [he150.eq, true_and, and_true]) <;> omega)⟩, rfl⟩)
