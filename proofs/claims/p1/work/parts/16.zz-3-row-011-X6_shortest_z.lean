set_option maxRecDepth 100000 in
set_option maxHeartbeats 8000000 in
theorem w_X6_shortest_z {tS : jTS} (d : Nat) (V0 : jH) (a0 : Nat) (pl : Nat) (pw : Int32) (ph : Int32) (po : Int64) (hd : 3 ≤ d) (hW : WT V0) (ha0 : jis V0 (.inr 4) a0) (hr_pl : jfR V0 a0 4 6 pl) (hpw : jfI V0 pl 0 1 pw) (hph : jfI V0 pl 0 2 ph) (hpo : jfL V0 pl 0 3 po) (hp0 : 2 ≤ pw.toInt) (hp1 : pw.toInt ≤ 6) (hp2 : 2 ≤ ph.toInt) (hp3 : ph.toInt ≤ 6) (hp4 : ∀ n : Nat, jbt po n = true → 9 ≤ n ∧ n ≤ 54) : jTot tS mX6_shortest d [.ref a0] V0 0 0 (fun r V => (fun r _ => ∃ y : Int32, r = some (.int y) ∧ ((-2147483648) ≤ y.toInt) ∧ (y.toInt ≤ 2147483647) ∧ (jshort (jbt po) (pw.toInt + 8 * ph.toInt).toNat y.toInt)) r V ∧ V = V0) := by
  refine jTot.of_J [some (.ref a0)] moX6_shortest (Nat.le_of_ble_eq_true rfl) rfl ?_
  have he : jeff [] V0 V0 := jeff.refl _ _
  obtain ⟨fs_a0, hO_a0, hK_a0⟩ := WT_obj hW id ha0
  have hF_pl := hr_pl.get hO_a0
  obtain ⟨w_pl, hFq_pl, b_pl, hbq_pl, hb_pl⟩ := hK_a0.2 6 (.inr (some (.inr 0))) rfl
  cases hF_pl.symm.trans (hFq_pl.trans (congrArg some hbq_pl))
  obtain ⟨fsp, hOp, hKp⟩ := WT_obj hW id hb_pl
  have hFpw := hpw.get hOp
  have hFph := hph.get hOp
  have hFpo := hpo.get hOp
  refine J_aload_n dX6_shortest_0 rfl ?_
  refine J_get jf_X6_42 dX6_shortest_1 hO_a0 hF_pl ?_
  refine Jw_callV0 (q9 := (RX2, TX2, 9)) moX2_shortestSteps jw_ml_X6_231 jw_im_X2_shortestSteps jw_se_X2_shortestSteps hb_pl rfl rfl dX6_shortest_4 (w_X2_shortestSteps_z (d - 1) _ pl pw ph po (by omega) hW  hb_pl ⟨_, hOp, hFpw⟩ ⟨_, hOp, hFph⟩ ⟨_, hOp, hFpo⟩ (by omega) (by omega) (by omega) (by omega) (by omega)) (by omega) (Nat.zero_le _) (Nat.zero_le _) (Nat.le_of_ble_eq_true rfl) (fun r4 V4 h4 => ?_)
  obtain ⟨⟨y4, rfl, hl4, hh4, hP4_0⟩, hE4⟩ := h4
  have hE4 := hE4.symm
  subst hE4
  clear hl4 hh4
  exact J_ret (r := some (.int _)) dX6_shortest_7 ⟨rfl, _, rfl, rfl⟩ (⟨⟨_, rfl, (j_rng _).1, (j_rng _).2, hP4_0⟩, rfl⟩)
