set_option maxRecDepth 100000 in
set_option maxHeartbeats 8000000 in
theorem w_X6_about_out {tS : jTS} (d : Nat) (V0 : jH) (a0 : Nat) (x1 : Int32) (x2 : Int32) (k : Int32) (md : Nat) (hd : 4 ≤ d) (hW : WT V0) (ha0 : jis V0 (.inr 4) a0) (hf_k : jfI V0 a0 4 1 k) (hr_md : jfR V0 a0 4 0 md) (hp0 : ¬ (0 ≤ x1.toInt ∧ x1.toInt < k.toInt)) : jTot tS mX6_about d [.ref a0, .int x1, .int x2] V0 0 0 (fun r V => (fun r _ => ∃ y : Int32, r = some (.int y) ∧ ((-2147483648) ≤ y.toInt) ∧ (y.toInt ≤ 2147483647) ∧ (y.toInt = -2)) r V ∧ V = V0) := by
  refine jTot.of_J [some (.ref a0), some (.int x1), some (.int x2), none] moX6_about (Nat.le_of_ble_eq_true rfl) rfl ?_
  have hrx1 := j_rng x1
  have hrx2 := j_rng x2
  have he : jeff [] V0 V0 := jeff.refl _ _
  obtain ⟨fs_a0, hO_a0, hK_a0⟩ := WT_obj hW id ha0
  have hF_k := hf_k.get hO_a0
  have hrk : 0 ≤ k.toInt ∧ k.toInt ≤ 16 := jok_rngI hK_a0 rfl hF_k
  have hF_md := hr_md.get hO_a0
  obtain ⟨w_md, hFq_md, b_md, hbq_md, hb_md⟩ := hK_a0.2 0 (.inr (some (.inl 4))) rfl
  cases hF_md.symm.trans (hFq_md.trans (congrArg some hbq_md))
  refine J_aload_n dX6_about_0 rfl ?_
  refine J_iload_n dX6_about_1 rfl ?_
  refine Jw_callV1 (q9 := (RX6, TX6, 7)) moX6_rowOf jw_ml_X6_55 jw_im_X6_rowOf jw_se_X6_rowOf ha0 rfl rfl dX6_about_2 (w_X6_rowOf_out (d - 1) _ a0 x1 hO_a0 hF_k (by omega)) (by omega) (Nat.zero_le _) (Nat.zero_le _) (Nat.le_of_ble_eq_true rfl) (fun r2 V2 h2 => ?_)
  obtain ⟨rfl, hE2⟩ := h2
  have hE2 := hE2.symm
  subst hE2
  · refine J_astore_nN dX6_about_5 rfl (by decide) ?_
    refine J_aload_nN dX6_about_6 rfl ?_
    refine J_ifnonnullN dX6_about_7 ?_
    refine Jz_bipush (-2) dX6_about_10 (by decide) (fun y10 he10 => ?_)
    exact J_ret (r := some (.int _)) dX6_about_12 ⟨rfl, _, rfl, rfl⟩ (⟨⟨_, rfl, (j_rng _).1, (j_rng _).2, (by (try simp only [he10.eq, true_and, and_true]) <;> omega)⟩, rfl⟩)
