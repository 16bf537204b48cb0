set_option maxRecDepth 100000 in
set_option maxHeartbeats 8000000 in
theorem w_X4_isTaken_z {tS : jTS} (d : Nat) (V0 : jH) {ln : Nat} (a0 : Nat) (x1 : Int32) (tk : Nat) (TK : Nat → Int32) (hd : 0 ≤ d) (hW : WT V0) (ha0 : jis V0 (.inr 2) a0) (hr_tk : jfR V0 a0 2 3 tk) (ha_TK : V0 tk = some (.inl (2, ln, .inl TK))) (hp0 : 0 ≤ x1.toInt) (hp1 : x1.toInt < (ln : Int)) (hp2 : (ln : Int) ≤ 20000) : jTot tS mX4_isTaken d [.ref a0, .int x1] V0 0 0 (fun r V => (fun r _ => ∃ y : Int32, r = some (.int y) ∧ (0 ≤ y.toInt) ∧ (y.toInt ≤ 1) ∧ ((y.toInt = 1 ∧ ¬ (TK x1.toInt.toNat).toInt = 0) ∨ (y.toInt = 0 ∧ (TK x1.toInt.toNat).toInt = 0))) r V ∧ V = V0) := by
  refine jTot.of_J [some (.ref a0), some (.int x1)] moX4_isTaken (Nat.le_of_ble_eq_true rfl) rfl ?_
  have hrx1 := j_rng x1
  have he : jeff [] V0 V0 := jeff.refl _ _
  obtain ⟨fs_a0, hO_a0, hK_a0⟩ := WT_obj hW id ha0
  have hF_tk := hr_tk.get hO_a0
  obtain ⟨w_tk, hFq_tk, b_tk, hbq_tk, hb_tk⟩ := hK_a0.2 3 (.inr (some (.inl 2))) rfl
  cases hF_tk.symm.trans (hFq_tk.trans (congrArg some hbq_tk))
  obtain ⟨hN_TK, hv_TK⟩ := WT_rngI (r := (0, 1)) hW id rfl ha_TK
  clear hN_TK
  refine J_iload_n dX4_isTaken_0 rfl ?_
  refine Jz_if_lt (tgt := 22) jEq.rf dX4_isTaken_1 (by decide) (fun c1 => ?_) (fun c1 => ?_)
  · refine Jz_iconst 1 dX4_isTaken_22 (by decide) (fun y22 he22 => ?_)
    refine J_goto (tgt := 27) dX4_isTaken_23 (by decide) ?_
    exact J_ret (r := some (.int _)) dX4_isTaken_27 ⟨rfl, _, rfl, (nar_b (by (try simp only [he22.eq, true_and, and_true]) <;> omega) (by (try simp only [he22.eq, true_and, and_true]) <;> omega))⟩ (⟨⟨_, rfl, (by (try simp only [he22.eq, true_and, and_true]) <;> omega), (by (try simp only [he22.eq, true_and, and_true]) <;> omega), (by (try simp only [he22.eq, true_and, and_true]) <;> omega)⟩, rfl⟩)
  · refine J_iload_n dX4_isTaken_4 rfl ?_
    refine J_aload_n dX4_isTaken_5 rfl ?_
    refine J_get jf_X4_54 dX4_isTaken_6 hO_a0 hF_tk ?_
    refine J_alen dX4_isTaken_9 ha_TK rfl rfl ?_
    have he9 : jEq (Int32.ofNat ln).toInt ln := nI_toInt (by omega)
    generalize Int32.ofNat ln = y9 at he9 ⊢
    refine Jz_icmp_ge (tgt := 22) jEq.rf he9 dX4_isTaken_10 (by decide) (fun c10 => ?_) (fun c10 => ?_)
    · refine Jz_iconst 1 dX4_isTaken_22 (by decide) (fun y22 he22 => ?_)
      refine J_goto (tgt := 27) dX4_isTaken_23 (by decide) ?_
      exact J_ret (r := some (.int _)) dX4_isTaken_27 ⟨rfl, _, rfl, (nar_b (by (try simp only [he22.eq, true_and, and_true]) <;> omega) (by (try simp only [he22.eq, true_and, and_true]) <;> omega))⟩ (⟨⟨_, rfl, (by (try simp only [he22.eq, true_and, and_true]) <;> omega), (by (try simp only [he22.eq, true_and, and_true]) <;> omega), (by (try simp only [he22.eq, true_and, and_true]) <;> omega)⟩, rfl⟩)
    · refine J_aload_n dX4_isTaken_13 rfl ?_
      refine J_get jf_X4_54 dX4_isTaken_14 hO_a0 hF_tk ?_
      refine J_iload_n dX4_isTaken_17 rfl ?_
      refine Jz_zald (r := (0, 1)) jEq.rf dX4_isTaken_18 ha_TK rfl hv_TK (by omega) (by omega) (fun y18 hf18 hl18 hh18 => ?_)
      dsimp only at hl18 hh18
      have hq18 : (TK x1.toInt.toNat).toInt = y18.toInt := by rw [hf18]
      refine Jz_if_eq (tgt := 26) jEq.rf dX4_isTaken_19 (by decide) (fun c19 => ?_) (fun c19 => ?_)
      · refine Jz_iconst 0 dX4_isTaken_26 (by decide) (fun y26 he26 => ?_)
        exact J_ret (r := some (.int _)) dX4_isTaken_27 ⟨rfl, _, rfl, (nar_b (by (try simp only [he26.eq, true_and, and_true]) <;> omega) (by (try simp only [he26.eq, true_and, and_true]) <;> omega))⟩ (⟨⟨_, rfl, (by (try simp only [he26.eq, true_and, and_true]) <;> omega), (by (try simp only [he26.eq, true_and, and_true]) <;> omega), (by (try simp only [he26.eq, true_and, and_true]) <;> omega)⟩, rfl⟩)
      · refine Jz_iconst 1 dX4_isTaken_22 (by decide) (fun y22 he22 => ?_)
        refine J_goto (tgt := 27) dX4_isTaken_23 (by decide) ?_
        exact J_ret (r := some (.int _)) dX4_isTaken_27 ⟨rfl, _, rfl, (nar_b (by (try simp only [he22.eq, true_and, and_true]) <;> omega) (by (try simp only [he22.eq, true_and, and_true]) <;> omega))⟩ (⟨⟨_, rfl, (by (try simp only [he22.eq, true_and, and_true]) <;> omega), (by (try simp only [he22.eq, true_and, and_true]) <;> omega), (by (try simp only [he22.eq, true_and, and_true]) <;> omega)⟩, rfl⟩)
