set_option maxRecDepth 100000 in
set_option maxHeartbeats 8000000 in
theorem w_X3_twiceArea_z {tS : jTS} (d : Nat) (V0 : jH) {ln : Nat} (a0 : Nat) (M : Int32) (g : Int32) (n : Int32) (s : Nat) (xx : Nat) (yy : Nat) (zz : Nat) (S : Nat → Int32) (X : Nat → Int32) (Y : Nat → Int32) (Z : Nat → Int32) (hd : 1 ≤ d) (hW : WT V0) (ha0 : jis V0 (.inr 1) a0) (hf_M : jfI V0 a0 1 0 M) (hf_g : jfI V0 a0 1 5 g) (hf_n : jfI V0 a0 1 6 n) (hr_s : jfR V0 a0 1 1 s) (hr_xx : jfR V0 a0 1 2 xx) (hr_yy : jfR V0 a0 1 3 yy) (hr_zz : jfR V0 a0 1 4 zz) (ha_S : V0 s = some (.inl (6, ln, .inl S))) (ha_X : V0 xx = some (.inl (34, ln + 1, .inl X))) (ha_Y : V0 yy = some (.inl (35, ln + 1, .inl Y))) (ha_Z : V0 zz = some (.inl (36, ln + 1, .inl Z))) (hp0 : M.toInt = (ln : Int)) (hp1 : (ln : Int) ≤ 120) (hp2 : n.toInt ≤ M.toInt) : jTot tS mX3_twiceArea d [.ref a0] V0 0 0 (fun r V => (fun r _ => ∃ y : Int32, r = some (.int y) ∧ ((-2147483648) ≤ y.toInt) ∧ (y.toInt ≤ 2147483647) ∧ (y.toInt = (jab (jar X Y n.toInt.toNat)).toInt)) r V ∧ V = V0) := by
  refine jTot.of_J [some (.ref a0), none, none] moX3_twiceArea (Nat.le_of_ble_eq_true rfl) rfl ?_
  have he : jeff [] V0 V0 := jeff.refl _ _
  obtain ⟨fs_a0, hO_a0, hK_a0⟩ := WT_obj hW id ha0
  have hF_M := hf_M.get hO_a0
  have hrM : 0 ≤ M.toInt ∧ M.toInt ≤ 120 := jok_rngI hK_a0 rfl hF_M
  have hF_g := hf_g.get hO_a0
  have hrg : (-2147483648) ≤ g.toInt ∧ g.toInt ≤ 2147483647 := jok_rngI hK_a0 rfl hF_g
  have hF_n := hf_n.get hO_a0
  have hrn : 0 ≤ n.toInt ∧ n.toInt ≤ 120 := jok_rngI hK_a0 rfl hF_n
  have hF_s := hr_s.get hO_a0
  obtain ⟨w_s, hFq_s, b_s, hbq_s, hb_s⟩ := hK_a0.2 1 (.inr (some (.inl 6))) rfl
  cases hF_s.symm.trans (hFq_s.trans (congrArg some hbq_s))
  have hF_xx := hr_xx.get hO_a0
  obtain ⟨w_xx, hFq_xx, b_xx, hbq_xx, hb_xx⟩ := hK_a0.2 2 (.inr (some (.inl 34))) rfl
  cases hF_xx.symm.trans (hFq_xx.trans (congrArg some hbq_xx))
  have hF_yy := hr_yy.get hO_a0
  obtain ⟨w_yy, hFq_yy, b_yy, hbq_yy, hb_yy⟩ := hK_a0.2 3 (.inr (some (.inl 35))) rfl
  cases hF_yy.symm.trans (hFq_yy.trans (congrArg some hbq_yy))
  have hF_zz := hr_zz.get hO_a0
  obtain ⟨w_zz, hFq_zz, b_zz, hbq_zz, hb_zz⟩ := hK_a0.2 4 (.inr (some (.inl 36))) rfl
  cases hF_zz.symm.trans (hFq_zz.trans (congrArg some hbq_zz))
  obtain ⟨hN_S, hv_S⟩ := WT_rngI (r := ((-2147483648), 2147483647)) hW id rfl ha_S
  clear hN_S
  obtain ⟨hN_X, hv_X⟩ := WT_rngI (r := ((-2147483648), 2147483647)) hW id rfl ha_X
  clear hN_X
  obtain ⟨hN_Y, hv_Y⟩ := WT_rngI (r := ((-2147483648), 2147483647)) hW id rfl ha_Y
  clear hN_Y
  obtain ⟨hN_Z, hv_Z⟩ := WT_rngI (r := ((-2147483648), 2147483647)) hW id rfl ha_Z
  clear hN_Z
  refine Jz_iconst 0 dX3_twiceArea_0 (by decide) (fun y0 he0 => ?_)
  refine J_istore_n dX3_twiceArea_1 rfl (by decide) ?_
  refine Jz_iconst 0 dX3_twiceArea_2 (by decide) (fun y2 he2 => ?_)
  refine J_istore_n dX3_twiceArea_3 rfl (by decide) ?_
  have L4 : ∀ (N : Nat) (i1n4 : Int32) (i2n4 : Int32), (0 ≤ i2n4.toInt ∧ i2n4.toInt ≤ n.toInt) → (i1n4 = jar X Y i2n4.toInt.toNat) → (300 - i2n4.toInt).toNat < N → J tS mX3_twiceArea d 4 [some (.ref a0), some (.int i1n4), some (.int i2n4)] [] V0 0 0 (fun r V => (fun r _ => ∃ y : Int32, r = some (.int y) ∧ ((-2147483648) ≤ y.toInt) ∧ (y.toInt ≤ 2147483647) ∧ (y.toInt = (jab (jar X Y n.toInt.toNat)).toInt)) r V ∧ V = V0) := by
    intro N
    induction N with
    | zero => intro i1n4 i2n4  hi2 hs hm; exact absurd hm (Nat.not_lt_zero _)
    | succ N ih =>
      intro i1n4 i2n4  hi2 hs hm
      have ih4 := ih
      have hri2 := j_rng i2n4
      refine J_iload_n dX3_twiceArea_4 rfl ?_
      refine J_aload_n dX3_twiceArea_5 rfl ?_
      refine J_get jf_X3_15 dX3_twiceArea_6 hO_a0 hF_n ?_
      refine Jz_icmp_ge (tgt := 60) jEq.rf jEq.rf dX3_twiceArea_9 (by decide) (fun c9 => ?_) (fun c9 => ?_)
      · refine J_iload_n dX3_twiceArea_60 rfl ?_
        refine J_mabs jw_ml_X3_85 dX3_twiceArea_61 (by omega) (Nat.le_of_ble_eq_true rfl) ?_
        exact J_ret (r := some (.int _)) dX3_twiceArea_64 ⟨rfl, _, rfl, rfl⟩ (⟨⟨_, rfl, (j_rng _).1, (j_rng _).2, (by show (jab _).toInt = _; rw [hs, show i2n4.toInt.toNat = n.toInt.toNat by omega])⟩, rfl⟩)
      · refine J_iload_n dX3_twiceArea_12 rfl ?_
        refine J_aload_n dX3_twiceArea_13 rfl ?_
        refine J_get jf_X3_34 dX3_twiceArea_14 hO_a0 hF_xx ?_
        refine J_iload_n dX3_twiceArea_17 rfl ?_
        refine J_callSN2 moX6_cell (host := "WalkGrounds") (List.mem_of_getElem? (i := 0) rfl) jw_st_X6_cell dX3_twiceArea_18 (w_X6_cell_x (d - 1) _ xx i2n4 ha_X (WT_rngI (r := (-2147483648, 2147483647)) hW id rfl ha_X).1 rfl (by omega) (by omega)) (by omega) (Nat.zero_le _) (Nat.zero_le _) (Nat.le_of_ble_eq_true rfl) (fun r18 V18 h18 => ?_)
        obtain ⟨⟨y18, rfl, hf18⟩, hE18⟩ := h18
        have hE18 := hE18.symm
        subst hE18
        have hz18 : jEq y18.toInt (X (i2n4.toInt).toNat).toInt := by rw [← hf18]; rfl
        clear hf18
        · refine J_aload_n dX3_twiceArea_21 rfl ?_
          refine J_get jf_X3_37 dX3_twiceArea_22 hO_a0 hF_yy ?_
          refine J_iload_n dX3_twiceArea_25 rfl ?_
          refine Jz_iconst 1 dX3_twiceArea_26 (by decide) (fun y26 he26 => ?_)
          refine Jz_iadd jEq.rf he26 dX3_twiceArea_27 (by omega) (by omega) (fun y27 he27 => ?_)
          refine J_callSN2 moX6_cell (host := "WalkGrounds") (List.mem_of_getElem? (i := 0) rfl) jw_st_X6_cell dX3_twiceArea_28 (w_X6_cell_x (d - 1) _ yy y27 ha_Y (WT_rngI (r := (-2147483648, 2147483647)) hW id rfl ha_Y).1 rfl (by (try simp only [he27.eq, true_and, and_true]) <;> omega) (by (try simp only [he27.eq, true_and, and_true]) <;> omega)) (by omega) (Nat.zero_le _) (Nat.zero_le _) (Nat.le_of_ble_eq_true rfl) (fun r28 V28 h28 => ?_)
          obtain ⟨⟨y28, rfl, hf28⟩, hE28⟩ := h28
          have hE28 := hE28.symm
          subst hE28
          have hz28 : jEq y28.toInt (Y (i2n4.toInt + 1).toNat).toInt := by rw [← hf28, he27.eq]; rfl
          clear hf28
          · refine J_imul dX3_twiceArea_31 ?_
            refine J_aload_n dX3_twiceArea_32 rfl ?_
            refine J_get jf_X3_34 dX3_twiceArea_33 hO_a0 hF_xx ?_
            refine J_iload_n dX3_twiceArea_36 rfl ?_
            refine Jz_iconst 1 dX3_twiceArea_37 (by decide) (fun y37 he37 => ?_)
            refine Jz_iadd jEq.rf he37 dX3_twiceArea_38 (by omega) (by omega) (fun y38 he38 => ?_)
            refine J_callSN2 moX6_cell (host := "WalkGrounds") (List.mem_of_getElem? (i := 0) rfl) jw_st_X6_cell dX3_twiceArea_39 (w_X6_cell_x (d - 1) _ xx y38 ha_X (WT_rngI (r := (-2147483648, 2147483647)) hW id rfl ha_X).1 rfl (by (try simp only [he38.eq, true_and, and_true]) <;> omega) (by (try simp only [he38.eq, true_and, and_true]) <;> omega)) (by omega) (Nat.zero_le _) (Nat.zero_le _) (Nat.le_of_ble_eq_true rfl) (fun r39 V39 h39 => ?_)
            obtain ⟨⟨y39, rfl, hf39⟩, hE39⟩ := h39
            have hE39 := hE39.symm
            subst hE39
            have hz39 : jEq y39.toInt (X (i2n4.toInt + 1).toNat).toInt := by rw [← hf39, he38.eq]; rfl
            clear hf39
            · refine J_aload_n dX3_twiceArea_42 rfl ?_
              refine J_get jf_X3_37 dX3_twiceArea_43 hO_a0 hF_yy ?_
              refine J_iload_n dX3_twiceArea_46 rfl ?_
              refine J_callSN2 moX6_cell (host := "WalkGrounds") (List.mem_of_getElem? (i := 0) rfl) jw_st_X6_cell dX3_twiceArea_47 (w_X6_cell_x (d - 1) _ yy i2n4 ha_Y (WT_rngI (r := (-2147483648, 2147483647)) hW id rfl ha_Y).1 rfl (by omega) (by omega)) (by omega) (Nat.zero_le _) (Nat.zero_le _) (Nat.le_of_ble_eq_true rfl) (fun r47 V47 h47 => ?_)
              obtain ⟨⟨y47, rfl, hf47⟩, hE47⟩ := h47
              have hE47 := hE47.symm
              subst hE47
              have hz47 : jEq y47.toInt (Y (i2n4.toInt).toNat).toInt := by rw [← hf47]; rfl
              clear hf47
              · refine J_imul dX3_twiceArea_50 ?_
                refine J_isub dX3_twiceArea_51 ?_
                refine J_iadd dX3_twiceArea_52 ?_
                refine J_istore_n dX3_twiceArea_53 rfl (by decide) ?_
                refine Jz_iinc 1 dX3_twiceArea_54 rfl rfl (by decide) jEq.rf (by decide) (by omega) (by omega) (fun y54 he54 => ?_)
                refine J_goto (tgt := 4) dX3_twiceArea_57 (by decide) ?_
                refine J.mask [true, true, true] ?_
                exact ih4  (i1n4 + ((y18 * y28) - (y39 * y47))) y54  (by (try simp only [he54.eq, true_and, and_true]) <;> omega) (by rw [he54.eq, show (i2n4.toInt + 1).toNat = i2n4.toInt.toNat + 1 by omega]; show _ = jar X Y _ + (X _ * Y (_ + 1) - X (_ + 1) * Y _); rw [← hs, jI_inj.mp hz18.eq, jI_inj.mp hz28.eq, jI_inj.mp hz39.eq, jI_inj.mp hz47.eq, show (i2n4.toInt + 1).toNat = i2n4.toInt.toNat + 1 by omega]) (by (try simp only [he54.eq, true_and, and_true]) <;> omega)
  refine J.mask [true, true, true] ?_
  exact L4 _  y0 y2    (by (try simp only [he0.eq, he2.eq, true_and, and_true]) <;> omega) (by have e : y0 = 0 := jI_inj.mp (he0.eq.trans rfl); rw [e, he2.eq]; rfl) (Nat.lt_succ_self _)
