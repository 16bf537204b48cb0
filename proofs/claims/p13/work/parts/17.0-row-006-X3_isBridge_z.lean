set_option maxRecDepth 100000 in
set_option maxHeartbeats 8000000 in
theorem w_X3_isBridge_z {tS : jTS} (d : Nat) (V0 : jH) {ln : Nat} (a0 : Nat) (M : Int32) (g : Int32) (n : Int32) (s : Nat) (xx : Nat) (yy : Nat) (zz : Nat) (S : Nat → Int32) (X : Nat → Int32) (Y : Nat → Int32) (Z : Nat → Int32) (hd : 2 ≤ d) (hW : WT V0) (ha0 : jis V0 (.inr 1) a0) (hf_M : jfI V0 a0 1 0 M) (hf_g : jfI V0 a0 1 5 g) (hf_n : jfI V0 a0 1 6 n) (hr_s : jfR V0 a0 1 1 s) (hr_xx : jfR V0 a0 1 2 xx) (hr_yy : jfR V0 a0 1 3 yy) (hr_zz : jfR V0 a0 1 4 zz) (ha_S : V0 s = some (.inl (6, ln, .inl S))) (ha_X : V0 xx = some (.inl (34, ln + 1, .inl X))) (ha_Y : V0 yy = some (.inl (35, ln + 1, .inl Y))) (ha_Z : V0 zz = some (.inl (36, ln + 1, .inl Z))) (hp0 : M.toInt = (ln : Int)) (hp1 : (ln : Int) ≤ 120) (hp2 : n.toInt ≤ M.toInt) : jTot tS mX3_isBridge d [.ref a0] V0 0 0 (fun r V => (fun r _ => ∃ y : Int32, r = some (.int y) ∧ (0 ≤ y.toInt) ∧ (y.toInt ≤ 1) ∧ (jIf y 1 (jbrg n.toInt.toNat X)) ∧ (jIf y 0 (¬ jbrg n.toInt.toNat X))) r V ∧ V = V0) := by
  refine jTot.of_J [some (.ref a0), none] moX3_isBridge (Nat.le_of_ble_eq_true rfl) rfl ?_
  have he : jeff [] V0 V0 := jeff.refl _ _
  obtain ⟨fs_a0, hO_a0, hK_a0⟩ := WT_obj hW id ha0
  have hF_M := hf_M.get hO_a0
  have hrM : 0 ≤ M.toInt ∧ M.toInt ≤ 120 := jok_rngI hK_a0 rfl hF_M
  have hF_g := hf_g.get hO_a0
  have hrg : (-2147483648) ≤ g.toInt ∧ g.toInt ≤ 2147483647 := jok_rngI hK_a0 rfl hF_g
  have hF_n := hf_n.get hO_a0
  have hrn : 0 ≤ n.toInt ∧ n.toInt ≤ 120 := jok_rngI hK_a0 rfl hF_n
  have hF_s := hr_s.get hO_a0
  obtain ⟨w_s, hFq_s, b_s, hbq_s, hb_s⟩ := hK_a0.2 1 (.inr (some (.inl 6))) rfl
  cases hF_s.symm.trans (hFq_s.trans (congrArg some hbq_s))
  have hF_xx := hr_xx.get hO_a0
  obtain ⟨w_xx, hFq_xx, b_xx, hbq_xx, hb_xx⟩ := hK_a0.2 2 (.inr (some (.inl 34))) rfl
  cases hF_xx.symm.trans (hFq_xx.trans (congrArg some hbq_xx))
  have hF_yy := hr_yy.get hO_a0
  obtain ⟨w_yy, hFq_yy, b_yy, hbq_yy, hb_yy⟩ := hK_a0.2 3 (.inr (some (.inl 35))) rfl
  cases hF_yy.symm.trans (hFq_yy.trans (congrArg some hbq_yy))
  have hF_zz := hr_zz.get hO_a0
  obtain ⟨w_zz, hFq_zz, b_zz, hbq_zz, hb_zz⟩ := hK_a0.2 4 (.inr (some (.inl 36))) rfl
  cases hF_zz.symm.trans (hFq_zz.trans (congrArg some hbq_zz))
  obtain ⟨hN_S, hv_S⟩ := WT_rngI (r := ((-2147483648), 2147483647)) hW id rfl ha_S
  clear hN_S
  obtain ⟨hN_X, hv_X⟩ := WT_rngI (r := ((-2147483648), 2147483647)) hW id rfl ha_X
  clear hN_X
  obtain ⟨hN_Y, hv_Y⟩ := WT_rngI (r := ((-2147483648), 2147483647)) hW id rfl ha_Y
  clear hN_Y
  obtain ⟨hN_Z, hv_Z⟩ := WT_rngI (r := ((-2147483648), 2147483647)) hW id rfl ha_Z
  clear hN_Z
  refine Jz_iconst 1 dX3_isBridge_0 (by decide) (fun y0 he0 => ?_)
  refine J_istore_n dX3_isBridge_1 rfl (by decide) ?_
  have L2 : ∀ (N : Nat) (i1n2 : Int32), (1 ≤ i1n2.toInt ∧ i1n2.toInt ≤ n.toInt + 1) → (∀ j : Nat, 1 ≤ j → (j : Int) < i1n2.toInt → 0 < (X j).toInt ∧ (X j).toInt ≤ (X n.toInt.toNat).toInt) → (300 - i1n2.toInt).toNat < N → J tS mX3_isBridge d 2 [some (.ref a0), some (.int i1n2)] [] V0 0 0 (fun r V => (fun r _ => ∃ y : Int32, r = some (.int y) ∧ (0 ≤ y.toInt) ∧ (y.toInt ≤ 1) ∧ (jIf y 1 (jbrg n.toInt.toNat X)) ∧ (jIf y 0 (¬ jbrg n.toInt.toNat X))) r V ∧ V = V0) := by
    intro N
    induction N with
    | zero => intro i1n2  hi1 hb hm; exact absurd hm (Nat.not_lt_zero _)
    | succ N ih =>
      intro i1n2  hi1 hb hm
      have ih2 := ih
      have hri1 := j_rng i1n2
      refine J_iload_n dX3_isBridge_2 rfl ?_
      refine J_aload_n dX3_isBridge_3 rfl ?_
      refine J_get jf_X3_15 dX3_isBridge_4 hO_a0 hF_n ?_
      refine Jz_icmp_gt (tgt := 44) jEq.rf jEq.rf dX3_isBridge_7 (by decide) (fun c7 => ?_) (fun c7 => ?_)
      · refine Jz_iconst 1 dX3_isBridge_44 (by decide) (fun y44 he44 => ?_)
        exact J_ret (r := some (.int _)) dX3_isBridge_45 ⟨rfl, _, rfl, (nar_b (by (try simp only [he44.eq, true_and, and_true]) <;> omega) (by (try simp only [he44.eq, true_and, and_true]) <;> omega))⟩ (⟨⟨_, rfl, (by (try simp only [he44.eq, true_and, and_true]) <;> omega), (by (try simp only [he44.eq, true_and, and_true]) <;> omega), (fun _ j h1 h2 => hb j h1 (by omega)), (fun h => by rw [he44.eq] at h; omega)⟩, rfl⟩)
      · refine J_aload_n dX3_isBridge_10 rfl ?_
        refine J_get jf_X3_34 dX3_isBridge_11 hO_a0 hF_xx ?_
        refine J_iload_n dX3_isBridge_14 rfl ?_
        refine J_callSN2 moX6_cell (host := "WalkGrounds") (List.mem_of_getElem? (i := 0) rfl) jw_st_X6_cell dX3_isBridge_15 (w_X6_cell_x (d - 1) _ xx i1n2 ha_X (WT_rngI (r := (-2147483648, 2147483647)) hW id rfl ha_X).1 rfl (by omega) (by omega)) (by omega) (Nat.zero_le _) (Nat.zero_le _) (Nat.le_of_ble_eq_true rfl) (fun r15 V15 h15 => ?_)
        obtain ⟨⟨y15, rfl, hf15⟩, hE15⟩ := h15
        have hE15 := hE15.symm
        subst hE15
        have hz15 : jEq y15.toInt (X (i1n2.toInt).toNat).toInt := by rw [← hf15]; rfl
        clear hf15
        · refine Jz_if_le (tgt := 36) hz15 dX3_isBridge_18 (by decide) (fun c18 => ?_) (fun c18 => ?_)
          · refine Jz_iconst 0 dX3_isBridge_36 (by decide) (fun y36 he36 => ?_)
            exact J_ret (r := some (.int _)) dX3_isBridge_37 ⟨rfl, _, rfl, (nar_b (by (try simp only [he36.eq, true_and, and_true]) <;> omega) (by (try simp only [he36.eq, true_and, and_true]) <;> omega))⟩ (⟨⟨_, rfl, (by (try simp only [he36.eq, true_and, and_true]) <;> omega), (by (try simp only [he36.eq, true_and, and_true]) <;> omega), (fun h => by rw [he36.eq] at h; omega), (fun _ q => by have q2 := q i1n2.toInt.toNat (by omega) (by omega); omega)⟩, rfl⟩)
          · refine J_aload_n dX3_isBridge_21 rfl ?_
            refine J_get jf_X3_34 dX3_isBridge_22 hO_a0 hF_xx ?_
            refine J_iload_n dX3_isBridge_25 rfl ?_
            refine J_callSN2 moX6_cell (host := "WalkGrounds") (List.mem_of_getElem? (i := 0) rfl) jw_st_X6_cell dX3_isBridge_26 (w_X6_cell_x (d - 1) _ xx i1n2 ha_X (WT_rngI (r := (-2147483648, 2147483647)) hW id rfl ha_X).1 rfl (by omega) (by omega)) (by omega) (Nat.zero_le _) (Nat.zero_le _) (Nat.le_of_ble_eq_true rfl) (fun r26 V26 h26 => ?_)
            obtain ⟨⟨y26, rfl, hf26⟩, hE26⟩ := h26
            have hE26 := hE26.symm
            subst hE26
            have hz26 : jEq y26.toInt (X (i1n2.toInt).toNat).toInt := by rw [← hf26]; rfl
            clear hf26
            · refine J_aload_n dX3_isBridge_29 rfl ?_
              refine Jw_callV0 (q9 := (RX3, TX3, 7)) moX3_endX jw_ml_X3_47 jw_im_X3_endX jw_se_X3_endX ha0 rfl rfl dX3_isBridge_30 (w_X3_endX_z (d - 1) _ a0 M g n s xx yy zz S X Y Z (by omega) hW  ha0 ⟨_, hO_a0, hF_M⟩ ⟨_, hO_a0, hF_g⟩ ⟨_, hO_a0, hF_n⟩ ⟨_, hO_a0, hF_s⟩ ⟨_, hO_a0, hF_xx⟩ ⟨_, hO_a0, hF_yy⟩ ⟨_, hO_a0, hF_zz⟩ ha_S ha_X ha_Y ha_Z (by omega) (by omega) (by omega)) (by omega) (Nat.zero_le _) (Nat.zero_le _) (Nat.le_of_ble_eq_true rfl) (fun r30 V30 h30 => ?_)
              obtain ⟨⟨y30, rfl, hl30, hh30, hP30_0⟩, hE30⟩ := h30
              have hE30 := hE30.symm
              subst hE30
              clear hl30 hh30
              have hz30 : jEq y30.toInt ((X (n.toInt).toNat).toInt) := hP30_0
              clear hP30_0
              refine Jz_icmp_le (tgt := 38) hz26 hz30 dX3_isBridge_33 (by decide) (fun c33 => ?_) (fun c33 => ?_)
              · refine Jz_iinc 1 dX3_isBridge_38 rfl rfl (by decide) jEq.rf (by decide) (by omega) (by omega) (fun y38 he38 => ?_)
                refine J_goto (tgt := 2) dX3_isBridge_41 (by decide) ?_
                refine J.mask [true, true] ?_
                exact ih2  y38  (by (try simp only [he38.eq, true_and, and_true]) <;> omega) (fun j h1 h2 => by rw [he38.eq] at h2; by_cases h9 : (j : Int) = i1n2.toInt; (have e : j = i1n2.toInt.toNat := by omega); subst e; omega; exact hb j h1 (by omega)) (by (try simp only [he38.eq, true_and, and_true]) <;> omega)
              · refine Jz_iconst 0 dX3_isBridge_36 (by decide) (fun y36 he36 => ?_)
                exact J_ret (r := some (.int _)) dX3_isBridge_37 ⟨rfl, _, rfl, (nar_b (by (try simp only [he36.eq, true_and, and_true]) <;> omega) (by (try simp only [he36.eq, true_and, and_true]) <;> omega))⟩ (⟨⟨_, rfl, (by (try simp only [he36.eq, true_and, and_true]) <;> omega), (by (try simp only [he36.eq, true_and, and_true]) <;> omega), (fun h => by rw [he36.eq] at h; omega), (fun _ q => by have q2 := q i1n2.toInt.toNat (by omega) (by omega); omega)⟩, rfl⟩)
  refine J.mask [true, true] ?_
  exact L2 _  y0    (by (try simp only [he0.eq, true_and, and_true]) <;> omega) (fun j h1 h2 => by rw [he0.eq] at h2; omega) (Nat.lt_succ_self _)
