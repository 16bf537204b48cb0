set_option maxRecDepth 100000 in
set_option maxHeartbeats 8000000 in
theorem w_X7_isBridge_z {tS : jTS} (d : Nat) (V0 : jH) (a0 : Nat) (n : Int32) (px : Nat) (PX : Nat → Int32) (hd : 0 ≤ d) (hW : WT V0) (ha0 : jis V0 (.inr 5) a0) (hf_n : jfI V0 a0 5 5 n) (hr_px : jfR V0 a0 5 6 px) (ha_PX : V0 px = some (.inl (18, 121, .inl PX))) : jTot tS mX7_isBridge d [.ref a0] V0 0 0 (fun r V => (fun r _ => ∃ y : Int32, r = some (.int y) ∧ (0 ≤ y.toInt) ∧ (y.toInt ≤ 1) ∧ ((y.toInt = 1 ∧ (jbrg n.toInt.toNat PX)) ∨ (y.toInt = 0 ∧ ¬ (jbrg n.toInt.toNat PX)))) r V ∧ V = V0) := by
  refine jTot.of_J [some (.ref a0), none, none] moX7_isBridge (Nat.le_of_ble_eq_true rfl) rfl ?_
  have he : jeff [] V0 V0 := jeff.refl _ _
  obtain ⟨fs_a0, hO_a0, hK_a0⟩ := WT_obj hW id ha0
  have hF_n := hf_n.get hO_a0
  have hrn : 0 ≤ n.toInt ∧ n.toInt ≤ 120 := jok_rngI hK_a0 rfl hF_n
  have hF_px := hr_px.get hO_a0
  obtain ⟨w_px, hFq_px, b_px, hbq_px, hb_px⟩ := hK_a0.2 6 (.inr (some (.inl 18))) rfl
  cases hF_px.symm.trans (hFq_px.trans (congrArg some hbq_px))
  obtain ⟨hN_PX, hv_PX⟩ := WT_rngI (r := ((-2147483648), 2147483647)) hW id rfl ha_PX
  clear hN_PX
  refine Jz_iconst 1 dX7_isBridge_0 (by decide) (fun y0 he0 => ?_)
  refine J_istore_n dX7_isBridge_1 rfl (by decide) ?_
  refine Jz_iconst 1 dX7_isBridge_2 (by decide) (fun y2 he2 => ?_)
  refine J_istore_n dX7_isBridge_3 rfl (by decide) ?_
  have L4 : ∀ (N : Nat) (i1n4 : Int32) (i2n4 : Int32), (1 ≤ i2n4.toInt ∧ i2n4.toInt ≤ n.toInt + 1) → ((i1n4.toInt = 1 ∧ ∀ j : Nat, 1 ≤ j → (j : Int) < i2n4.toInt → 0 < (PX j).toInt ∧ (PX j).toInt ≤ (PX n.toInt.toNat).toInt) ∨ (i1n4.toInt = 0 ∧ ¬ jbrg n.toInt.toNat PX)) → (300 - i2n4.toInt).toNat < N → J tS mX7_isBridge d 4 [some (.ref a0), some (.int i1n4), some (.int i2n4)] [] V0 0 0 (fun r V => (fun r _ => ∃ y : Int32, r = some (.int y) ∧ (0 ≤ y.toInt) ∧ (y.toInt ≤ 1) ∧ ((y.toInt = 1 ∧ (jbrg n.toInt.toNat PX)) ∨ (y.toInt = 0 ∧ ¬ (jbrg n.toInt.toNat PX)))) r V ∧ V = V0) := by
    intro N
    induction N with
    | zero => intro i1n4 i2n4  hi2 hb hm; exact absurd hm (Nat.not_lt_zero _)
    | succ N ih =>
      intro i1n4 i2n4  hi2 hb hm
      have ih4 := ih
      have hri2 := j_rng i2n4
      refine J_iload_n dX7_isBridge_4 rfl ?_
      refine J_aload_n dX7_isBridge_5 rfl ?_
      refine J_get jf_X7_109 dX7_isBridge_6 hO_a0 hF_n ?_
      refine Jz_icmp_gt (tgt := 55) jEq.rf jEq.rf dX7_isBridge_9 (by decide) (fun c9 => ?_) (fun c9 => ?_)
      · refine J_iload_n dX7_isBridge_55 rfl ?_
        exact J_ret (r := some (.int _)) dX7_isBridge_56 ⟨rfl, _, rfl, (nar_b (by omega) (by omega))⟩ (⟨⟨_, rfl, (by omega), (by omega), (hb.imp (fun q => ⟨q.1, fun j h1 h2 => q.2 j h1 (by omega)⟩) id)⟩, rfl⟩)
      · refine J_iload_n dX7_isBridge_12 rfl ?_
        refine Jz_if_eq (tgt := 47) jEq.rf dX7_isBridge_13 (by decide) (fun c13 => ?_) (fun c13 => ?_)
        · refine Jz_iconst 0 dX7_isBridge_47 (by decide) (fun y47 he47 => ?_)
          refine J_istore_n dX7_isBridge_48 rfl (by decide) ?_
          refine Jz_iinc 1 dX7_isBridge_49 rfl rfl (by decide) jEq.rf (by decide) (by omega) (by omega) (fun y49 he49 => ?_)
          refine J_goto (tgt := 4) dX7_isBridge_52 (by decide) ?_
          refine J.mask [true, true, true] ?_
          exact ih4  y47 y49  (by (try simp only [he47.eq, he49.eq, true_and, and_true]) <;> omega) (hb.elim (fun q => absurd q.1 (by omega)) (fun q => Or.inr ⟨he47.eq, q.2⟩)) (by (try simp only [he47.eq, he49.eq, true_and, and_true]) <;> omega)
        · refine J_aload_n dX7_isBridge_16 rfl ?_
          refine J_get jf_X7_22 dX7_isBridge_17 hO_a0 hF_px ?_
          refine J_iload_n dX7_isBridge_20 rfl ?_
          refine Jz_iald (r := ((-2147483648), 2147483647)) jEq.rf dX7_isBridge_21 ha_PX rfl hv_PX (by omega) (by omega) (fun y21 hf21 hl21 hh21 => ?_)
          dsimp only at hl21 hh21
          clear hl21 hh21
          refine Jz_if_le (tgt := 47) jEq.rf dX7_isBridge_22 (by decide) (fun c22 => ?_) (fun c22 => ?_)
          · refine Jz_iconst 0 dX7_isBridge_47 (by decide) (fun y47 he47 => ?_)
            refine J_istore_n dX7_isBridge_48 rfl (by decide) ?_
            refine Jz_iinc 1 dX7_isBridge_49 rfl rfl (by decide) jEq.rf (by decide) (by omega) (by omega) (fun y49 he49 => ?_)
            refine J_goto (tgt := 4) dX7_isBridge_52 (by decide) ?_
            refine J.mask [true, true, true] ?_
            exact ih4  y47 y49  (by (try simp only [he47.eq, he49.eq, true_and, and_true]) <;> omega) (Or.inr ⟨he47.eq, fun q => by have q2 := q i2n4.toInt.toNat (by omega) (by omega); rw [hf21] at q2; omega⟩) (by (try simp only [he47.eq, he49.eq, true_and, and_true]) <;> omega)
          · refine J_aload_n dX7_isBridge_25 rfl ?_
            refine J_get jf_X7_22 dX7_isBridge_26 hO_a0 hF_px ?_
            refine J_iload_n dX7_isBridge_29 rfl ?_
            refine Jz_iald (r := ((-2147483648), 2147483647)) jEq.rf dX7_isBridge_30 ha_PX rfl hv_PX (by omega) (by omega) (fun y30 hf30 hl30 hh30 => ?_)
            dsimp only at hl30 hh30
            clear hl30 hh30
            have he30 : jEq y30.toInt (y21.toInt) := by rw [← hf30, hf21]; exact jEq.rf
            refine J_aload_n dX7_isBridge_31 rfl ?_
            refine J_get jf_X7_22 dX7_isBridge_32 hO_a0 hF_px ?_
            refine J_aload_n dX7_isBridge_35 rfl ?_
            refine J_get jf_X7_109 dX7_isBridge_36 hO_a0 hF_n ?_
            refine Jz_iald (r := ((-2147483648), 2147483647)) jEq.rf dX7_isBridge_39 ha_PX rfl hv_PX (by omega) (by omega) (fun y39 hf39 hl39 hh39 => ?_)
            dsimp only at hl39 hh39
            clear hl39 hh39
            refine Jz_icmp_gt (tgt := 47) he30 jEq.rf dX7_isBridge_40 (by decide) (fun c40 => ?_) (fun c40 => ?_)
            · refine Jz_iconst 0 dX7_isBridge_47 (by decide) (fun y47 he47 => ?_)
              refine J_istore_n dX7_isBridge_48 rfl (by decide) ?_
              refine Jz_iinc 1 dX7_isBridge_49 rfl rfl (by decide) jEq.rf (by decide) (by omega) (by omega) (fun y49 he49 => ?_)
              refine J_goto (tgt := 4) dX7_isBridge_52 (by decide) ?_
              refine J.mask [true, true, true] ?_
              exact ih4  y47 y49  (by (try simp only [he47.eq, he49.eq, true_and, and_true]) <;> omega) (Or.inr ⟨he47.eq, fun q => by have q2 := q i2n4.toInt.toNat (by omega) (by omega); rw [hf21, hf39] at q2; omega⟩) (by (try simp only [he47.eq, he49.eq, true_and, and_true]) <;> omega)
            · refine Jz_iconst 1 dX7_isBridge_43 (by decide) (fun y43 he43 => ?_)
              refine J_goto (tgt := 48) dX7_isBridge_44 (by decide) ?_
              refine J_istore_n dX7_isBridge_48 rfl (by decide) ?_
              refine Jz_iinc 1 dX7_isBridge_49 rfl rfl (by decide) jEq.rf (by decide) (by omega) (by omega) (fun y49 he49 => ?_)
              refine J_goto (tgt := 4) dX7_isBridge_52 (by decide) ?_
              refine J.mask [true, true, true] ?_
              exact ih4  y43 y49  (by (try simp only [he43.eq, he49.eq, true_and, and_true]) <;> omega) (Or.inl ⟨he43.eq, fun j h1 h2 => by rw [he49.eq] at h2; by_cases h9 : (j : Int) = i2n4.toInt; (have e : j = i2n4.toInt.toNat := by omega); subst e; (rw [hf21, hf39]; omega); exact hb.elim (fun q => q.2 j h1 (by omega)) (fun q => absurd q.1 (by omega))⟩) (by (try simp only [he43.eq, he49.eq, true_and, and_true]) <;> omega)
  refine J.mask [true, true, true] ?_
  exact L4 _  y0 y2    (by (try simp only [he0.eq, he2.eq, true_and, and_true]) <;> omega) (Or.inl ⟨he0.eq, fun j h1 h2 => by rw [he2.eq] at h2; omega⟩) (Nat.lt_succ_self _)
