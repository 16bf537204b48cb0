set_option maxRecDepth 100000 in
set_option maxHeartbeats 8000000 in
theorem w_X7_findForm_z {tS : jTS} (d : Nat) (V0 : jH) (a0 : Nat) (x1 : Int32) (n : Int32) (rw : Nat) (fm : Nat) (RW : Nat → Int32) (FM : Nat → Int32) (hd : 3 ≤ d) (hW : WT V0) (ha0 : jis V0 (.inr 5) a0) (hf_n : jfI V0 a0 5 5 n) (hr_rw : jfR V0 a0 5 4 rw) (hr_fm : jfR V0 a0 5 9 fm) (ha_RW : V0 rw = some (.inl (17, 120, .inl RW))) (ha_FM : V0 fm = some (.inl (21, 60, .inl FM))) (hp0 : 0 ≤ x1.toInt) (hp1 : x1.toInt ≤ 3) (hp2 : n.toInt ≤ 60) (hp3 : ∀ j : Nat, (j : Int) < n.toInt → 0 ≤ (RW j).toInt ∧ (RW j).toInt < jdir x1.toInt) : jTot tS mX7_findForm d [.ref a0, .int x1] V0 0 0 (fun r V => (jPost [.inl 21] V0 rV) r V ∧ (∃ F2 : Nat → Int32, V fm = some (.inl (21, 60, .inl F2)) ∧ ∀ j : Nat, j < n.toInt.toNat → (F2 j).toInt = jbs x1.toInt (fun q => (RW q).toInt) n.toInt.toNat (2 * jtur x1.toInt).toNat j)) := by
  refine jTot.of_J [some (.ref a0), some (.int x1), none, none, none, none, none] moX7_findForm (Nat.le_of_ble_eq_true rfl) rfl ?_
  have hrx1 := j_rng x1
  have he : jeff [.inl 21] V0 V0 := jeff.refl _ _
  obtain ⟨fs_a0, hO_a0, hK_a0⟩ := WT_obj hW id ha0
  have hF_n := hf_n.get hO_a0
  have hrn : 0 ≤ n.toInt ∧ n.toInt ≤ 120 := jok_rngI hK_a0 rfl hF_n
  have hF_rw := hr_rw.get hO_a0
  obtain ⟨w_rw, hFq_rw, b_rw, hbq_rw, hb_rw⟩ := hK_a0.2 4 (.inr (some (.inl 17))) rfl
  cases hF_rw.symm.trans (hFq_rw.trans (congrArg some hbq_rw))
  have hF_fm := hr_fm.get hO_a0
  obtain ⟨w_fm, hFq_fm, b_fm, hbq_fm, hb_fm⟩ := hK_a0.2 9 (.inr (some (.inl 21))) rfl
  cases hF_fm.symm.trans (hFq_fm.trans (congrArg some hbq_fm))
  obtain ⟨hN_RW, hv_RW⟩ := WT_rngI (r := ((-2147483648), 2147483647)) hW id rfl ha_RW
  clear hN_RW
  obtain ⟨hN_FM, hv_FM⟩ := WT_rngI (r := ((-2147483648), 2147483647)) hW id rfl ha_FM
  clear hN_FM
  have hjd := jdir_cases x1.toInt
  have htc := jtur_cases x1.toInt
  refine Jz_iconst 0 dX7_findForm_0 (by decide) (fun y0 he0 => ?_)
  refine J_istore_n dX7_findForm_1 rfl (by decide) ?_
  have L2 : ∀ (N : Nat) (V : jH) (i2n2 : Int32) (F21n2 : Nat → Int32), WT V → jeff [.inl 21] V0 V → (jis V (.inr 5) a0) → (jis V (.inl 17) rw) → (jis V (.inl 21) fm) → (V a0 = some (.inr (5, fs_a0))) → (jokO V (jFs 5) fs_a0) → (V fm = some (.inl (21, 60, .inl F21n2))) → (V rw = some (.inl (17, 120, .inl RW))) → (0 ≤ i2n2.toInt ∧ i2n2.toInt ≤ n.toInt) → (∀ j : Nat, (j : Int) < i2n2.toInt → (F21n2 j).toInt = (RW j).toInt) → (300 - i2n2.toInt).toNat < N → J tS mX7_findForm d 2 [some (.ref a0), some (.int x1), some (.int i2n2), none, none, none, none] [] V 0 0 (fun r V => (jPost [.inl 21] V0 rV) r V ∧ (∃ F2 : Nat → Int32, V fm = some (.inl (21, 60, .inl F2)) ∧ ∀ j : Nat, j < n.toInt.toNat → (F2 j).toInt = jbs x1.toInt (fun q => (RW q).toInt) n.toInt.toNat (2 * jtur x1.toInt).toNat j)) := by
    intro N
    induction N with
    | zero => intro V i2n2 F21n2 hW he ha0 hb_rw hb_fm hO_a0 hK_a0 hAF21n2 ha_RW hi2 hc hm; exact absurd hm (Nat.not_lt_zero _)
    | succ N ih =>
      intro V i2n2 F21n2 hW he ha0 hb_rw hb_fm hO_a0 hK_a0 hAF21n2 ha_RW hi2 hc hm
      have ih2 := ih
      have hri2 := j_rng i2n2
      obtain ⟨hNF21n2, hvF21n2⟩ := WT_rngI (r := ((-2147483648), 2147483647)) hW id rfl hAF21n2
      clear hNF21n2
      refine J_iload_n dX7_findForm_2 rfl ?_
      refine J_aload_n dX7_findForm_3 rfl ?_
      refine J_get jf_X7_109 dX7_findForm_4 hO_a0 hF_n ?_
      refine Jz_icmp_ge (tgt := 28) jEq.rf jEq.rf dX7_findForm_7 (by decide) (fun c7 => ?_) (fun c7 => ?_)
      · refine Jz_iconst 0 dX7_findForm_28 (by decide) (fun y28 he28 => ?_)
        refine J_istore_n dX7_findForm_29 rfl (by decide) ?_
        have L30 : ∀ (N : Nat) (V : jH) (i2n30 : Int32) (F21n30 : Nat → Int32), WT V → jeff [.inl 21] V0 V → (jis V (.inr 5) a0) → (jis V (.inl 17) rw) → (jis V (.inl 21) fm) → (V a0 = some (.inr (5, fs_a0))) → (jokO V (jFs 5) fs_a0) → (V fm = some (.inl (21, 60, .inl F21n30))) → (V rw = some (.inl (17, 120, .inl RW))) → (0 ≤ i2n30.toInt ∧ i2n30.toInt ≤ 2 * jtur x1.toInt) → (∀ j : Nat, j < n.toInt.toNat → (F21n30 j).toInt = jbs x1.toInt (fun q => (RW q).toInt) n.toInt.toNat i2n30.toInt.toNat j) → (300 - i2n30.toInt).toNat < N → J tS mX7_findForm d 30 [some (.ref a0), some (.int x1), some (.int i2n30), none, none, none, none] [] V 0 0 (fun r V => (jPost [.inl 21] V0 rV) r V ∧ (∃ F2 : Nat → Int32, V fm = some (.inl (21, 60, .inl F2)) ∧ ∀ j : Nat, j < n.toInt.toNat → (F2 j).toInt = jbs x1.toInt (fun q => (RW q).toInt) n.toInt.toNat (2 * jtur x1.toInt).toNat j)) := by
          intro N
          induction N with
          | zero => intro V i2n30 F21n30 hW he ha0 hb_rw hb_fm hO_a0 hK_a0 hAF21n30 ha_RW hi2b hb hm; exact absurd hm (Nat.not_lt_zero _)
          | succ N ih =>
            intro V i2n30 F21n30 hW he ha0 hb_rw hb_fm hO_a0 hK_a0 hAF21n30 ha_RW hi2b hb hm
            have ih30 := ih
            have hri2 := j_rng i2n30
            obtain ⟨hNF21n30, hvF21n30⟩ := WT_rngI (r := ((-2147483648), 2147483647)) hW id rfl hAF21n30
            clear hNF21n30
            refine J_iload_n dX7_findForm_30 rfl ?_
            refine Jz_iconst 2 dX7_findForm_31 (by decide) (fun y31 he31 => ?_)
            refine J_iload_n dX7_findForm_32 rfl ?_
            refine J_callS1 moX7_turns jw_ml_X7_143 jw_st_X7_turns dX7_findForm_33 (w_X7_turns (d - 1) _ x1 (by omega)   ) (by omega) (Nat.zero_le _) (Nat.zero_le _) (Nat.le_of_ble_eq_true rfl) (fun r33 V33 h33 => ?_)
            obtain ⟨⟨y33, rfl, hl33, hh33, hP33_0⟩, hE33⟩ := h33
            have hE33 := hE33.symm
            subst hE33
            have hz33 : jEq y33.toInt (jtur (x1.toInt)) := hP33_0
            simp only [hP33_0] at hl33 hh33
            clear hP33_0
            refine Jz_imul he31 hz33 dX7_findForm_36 (by omega) (by omega) (fun y36 he36 => ?_)
            refine Jz_icmp_ge (tgt := 167) jEq.rf he36 dX7_findForm_37 (by decide) (fun c37 => ?_) (fun c37 => ?_)
            · exact J_ret (r := none) dX7_findForm_167 ⟨rfl, rfl⟩ (⟨⟨hW, he, rfl⟩, ⟨F21n30, hAF21n30, by rw [show (2 * jtur x1.toInt).toNat = i2n30.toInt.toNat by omega]; exact hb⟩⟩)
            · refine J_iload_n dX7_findForm_40 rfl ?_
              refine Jz_iconst 2 dX7_findForm_41 (by decide) (fun y41 he41 => ?_)
              refine Jz_idivC jEq.rf he41 dX7_findForm_42 (by omega) (by omega) (fun y42 he42 => ?_)
              have hoq42 : y42.toInt = (i2n30.toInt) / (2) := he42.eq
              refine J_istore_n dX7_findForm_43 rfl (by decide) ?_
              refine J_iload_n dX7_findForm_44 rfl ?_
              refine Jz_iconst 2 dX7_findForm_45 (by decide) (fun y45 he45 => ?_)
              refine Jz_iremC jEq.rf he45 dX7_findForm_46 (by omega) (by omega) (fun y46 he46 => ?_)
              refine Jz_iconst 1 dX7_findForm_47 (by decide) (fun y47 he47 => ?_)
              refine Jz_icmp_ne (tgt := 55) he46 he47 dX7_findForm_48 (by decide) (fun c48 => ?_) (fun c48 => ?_)
              · refine Jz_iconst 0 dX7_findForm_55 (by decide) (fun y55 he55 => ?_)
                have hoq55 : y55.toInt = 0 := he55.eq
                refine J_istore dX7_findForm_56 rfl (by decide) ?_
                refine Jz_iconst 0 dX7_findForm_58 (by decide) (fun y58 he58 => ?_)
                refine J_istore dX7_findForm_59 rfl (by decide) ?_
                have L61 : ∀ (N : Nat) (i5n61 : Int32), (0 ≤ i5n61.toInt ∧ i5n61.toInt ≤ n.toInt) → (∀ j : Nat, (j : Int) < i5n61.toInt → (jim x1.toInt (fun q => (RW q).toInt) n.toInt.toNat y42.toInt (decide (y55.toInt = 1)) j) = (F21n30 j).toInt) → (300 - i5n61.toInt).toNat < N → J tS mX7_findForm d 61 [some (.ref a0), some (.int x1), some (.int i2n30), some (.int y42), some (.int y55), some (.int i5n61), none] [] V 0 0 (fun r V => (jPost [.inl 21] V0 rV) r V ∧ (∃ F2 : Nat → Int32, V fm = some (.inl (21, 60, .inl F2)) ∧ ∀ j : Nat, j < n.toInt.toNat → (F2 j).toInt = jbs x1.toInt (fun q => (RW q).toInt) n.toInt.toNat (2 * jtur x1.toInt).toNat j)) := by
                  intro N
                  induction N with
                  | zero => intro i5n61  hi5 heq hm; exact absurd hm (Nat.not_lt_zero _)
                  | succ N ih =>
                    intro i5n61  hi5 heq hm
                    have ih61 := ih
                    have hri5 := j_rng i5n61
                    refine J_iload dX7_findForm_61 rfl ?_
                    refine J_aload_n dX7_findForm_63 rfl ?_
                    refine J_get jf_X7_109 dX7_findForm_64 hO_a0 hF_n ?_
                    refine Jz_icmp_ge (tgt := 96) jEq.rf jEq.rf dX7_findForm_67 (by decide) (fun c67 => ?_) (fun c67 => ?_)
                    · refine J_iload dX7_findForm_96 rfl ?_
                      refine J_aload_n dX7_findForm_98 rfl ?_
                      refine J_get jf_X7_109 dX7_findForm_99 hO_a0 hF_n ?_
                      refine Jz_icmp_ge (tgt := 161) jEq.rf jEq.rf dX7_findForm_102 (by decide) (fun c102 => ?_) (fun c102 => ?_)
                      · refine Jz_iinc 1 dX7_findForm_161 rfl rfl (by decide) jEq.rf (by decide) (by omega) (by omega) (fun y161 he161 => ?_)
                        refine J_goto (tgt := 30) dX7_findForm_164 (by decide) ?_
                        refine J.mask [true, true, true, false, false, false, false] ?_
                        exact ih30 _ y161 F21n30 hW he ha0 hb_rw hb_fm hO_a0 hK_a0 hAF21n30 ha_RW (by (try simp only [he161.eq, true_and, and_true]) <;> omega) (by rw [he161.eq, show (i2n30.toInt + 1).toNat = i2n30.toInt.toNat + 1 by omega]; exact (jbs_step (K := i2n30.toInt.toNat) (t := y42.toInt) (b := decide (y55.toInt = 1)) (by omega) (decide_eq_decide.mpr (by omega)) hb (fun z => absurd z (jlx_eq (fun j hj => heq j (by omega)))) (fun _ j _ => rfl))) (by (try simp only [he161.eq, true_and, and_true]) <;> omega)
                      · refine J_aload_n dX7_findForm_105 rfl ?_
                        refine J_iload_n dX7_findForm_106 rfl ?_
                        refine J_iload_n dX7_findForm_107 rfl ?_
                        refine J_iload dX7_findForm_108 rfl ?_
                        refine J_iload dX7_findForm_110 rfl ?_
                        have c87x : ¬ (jim x1.toInt (fun q => (RW q).toInt) n.toInt.toNat y42.toInt (decide (y55.toInt = 1)) i5n61.toInt.toNat) = (F21n30 i5n61.toInt.toNat).toInt := by first | omega | (rw [hq86]; omega)
                        refine Jw_callV4 (q9 := (RX7, TX7, 34)) moX7_tried jw_ml_X7_170 jw_im_X7_tried jw_se_X7_tried ha0 rfl rfl dX7_findForm_112 (w_X7_tried_z (d - 1) _ a0 x1 y42 y55 i5n61 n rw RW (by omega) hW  ha0 (by omega) (by omega) ⟨_, hO_a0, hF_n⟩ ⟨_, hO_a0, hF_rw⟩ ha_RW (by omega) (by omega) (by omega) (by omega) (by omega) (by omega) (by omega)) (by omega) (Nat.zero_le _) (Nat.zero_le _) (Nat.le_of_ble_eq_true rfl) (fun r112 V112 h112 => ?_)
                        obtain ⟨⟨y112, rfl, hl112, hh112, hP112_0⟩, hE112⟩ := h112
                        have hE112 := hE112.symm
                        subst hE112
                        clear hl112 hh112
                        have hz112 : jEq y112.toInt ((jim (x1.toInt) (fun q => (RW q).toInt) (n.toInt).toNat (y42.toInt) (decide ((y55.toInt) = 1)) (i5n61.toInt).toNat)) := hP112_0
                        clear hP112_0
                        refine J_aload_n dX7_findForm_115 rfl ?_
                        refine J_get jf_X7_31 dX7_findForm_116 hO_a0 hF_fm ?_
                        refine J_iload dX7_findForm_119 rfl ?_
                        refine Jz_iald (r := ((-2147483648), 2147483647)) jEq.rf dX7_findForm_121 hAF21n30 rfl hvF21n30 (by omega) (by omega) (fun y121 hf121 hl121 hh121 => ?_)
                        dsimp only at hl121 hh121
                        clear hl121 hh121
                        refine Jz_icmp_ge (tgt := 161) hz112 jEq.rf dX7_findForm_122 (by decide) (fun c122 => ?_) (fun c122 => ?_)
                        · refine Jz_iinc 1 dX7_findForm_161 rfl rfl (by decide) jEq.rf (by decide) (by omega) (by omega) (fun y161 he161 => ?_)
                          refine J_goto (tgt := 30) dX7_findForm_164 (by decide) ?_
                          refine J.mask [true, true, true, false, false, false, false] ?_
                          exact ih30 _ y161 F21n30 hW he ha0 hb_rw hb_fm hO_a0 hK_a0 hAF21n30 ha_RW (by (try simp only [he161.eq, true_and, and_true]) <;> omega) (by rw [he161.eq, show (i2n30.toInt + 1).toNat = i2n30.toInt.toNat + 1 by omega]; exact (jbs_step (K := i2n30.toInt.toNat) (t := y42.toInt) (b := decide (y55.toInt = 1)) (by omega) (decide_eq_decide.mpr (by omega)) hb (fun z => absurd ((jlx_at (n := n.toInt.toNat) (i := i5n61.toInt.toNat) (F := (jim x1.toInt (fun q => (RW q).toInt) n.toInt.toNat y42.toInt (decide (y55.toInt = 1)))) (B := (fun q => (F21n30 q).toInt)) (by omega) (fun j hj => heq j (by omega)) (fun z => c87x z)).mp z) (fun z3 => by have z4 : (jim x1.toInt (fun q => (RW q).toInt) n.toInt.toNat y42.toInt (decide (y55.toInt = 1)) i5n61.toInt.toNat) < (F21n30 i5n61.toInt.toNat).toInt := z3; first | omega | (rw [hq86] at z4; omega))) (fun _ j _ => rfl))) (by (try simp only [he161.eq, true_and, and_true]) <;> omega)
                        · have c122x : (jim x1.toInt (fun q => (RW q).toInt) n.toInt.toNat y42.toInt (decide (y55.toInt = 1)) i5n61.toInt.toNat) < (F21n30 i5n61.toInt.toNat).toInt := by first | omega | (rw [hq86]; omega)
                          refine J_iload dX7_findForm_125 rfl ?_
                          refine J_istore dX7_findForm_127 rfl (by decide) ?_
                          have L129 : ∀ (N : Nat) (V : jH) (i6n129 : Int32) (F21n129 : Nat → Int32), WT V → jeff [.inl 21] V0 V → (jis V (.inr 5) a0) → (jis V (.inl 17) rw) → (jis V (.inl 21) fm) → (V a0 = some (.inr (5, fs_a0))) → (jokO V (jFs 5) fs_a0) → (V fm = some (.inl (21, 60, .inl F21n129))) → (V rw = some (.inl (17, 120, .inl RW))) → (i5n61.toInt ≤ i6n129.toInt ∧ i6n129.toInt ≤ n.toInt) → (∀ j : Nat, (j : Int) < i6n129.toInt → (F21n129 j).toInt = (jim x1.toInt (fun q => (RW q).toInt) n.toInt.toNat y42.toInt (decide (y55.toInt = 1)) j)) → (300 - i6n129.toInt).toNat < N → J tS mX7_findForm d 129 [some (.ref a0), some (.int x1), some (.int i2n30), some (.int y42), some (.int y55), some (.int i5n61), some (.int i6n129)] [] V 0 0 (fun r V => (jPost [.inl 21] V0 rV) r V ∧ (∃ F2 : Nat → Int32, V fm = some (.inl (21, 60, .inl F2)) ∧ ∀ j : Nat, j < n.toInt.toNat → (F2 j).toInt = jbs x1.toInt (fun q => (RW q).toInt) n.toInt.toNat (2 * jtur x1.toInt).toNat j)) := by
                            intro N
                            induction N with
                            | zero => intro V i6n129 F21n129 hW he ha0 hb_rw hb_fm hO_a0 hK_a0 hAF21n129 ha_RW hi6 hcp hm; exact absurd hm (Nat.not_lt_zero _)
                            | succ N ih =>
                              intro V i6n129 F21n129 hW he ha0 hb_rw hb_fm hO_a0 hK_a0 hAF21n129 ha_RW hi6 hcp hm
                              have ih129 := ih
                              have hri6 := j_rng i6n129
                              obtain ⟨hNF21n129, hvF21n129⟩ := WT_rngI (r := ((-2147483648), 2147483647)) hW id rfl hAF21n129
                              clear hNF21n129
                              refine J_iload dX7_findForm_129 rfl ?_
                              refine J_aload_n dX7_findForm_131 rfl ?_
                              refine J_get jf_X7_109 dX7_findForm_132 hO_a0 hF_n ?_
                              refine Jz_icmp_ge (tgt := 161) jEq.rf jEq.rf dX7_findForm_135 (by decide) (fun c135 => ?_) (fun c135 => ?_)
                              · refine Jz_iinc 1 dX7_findForm_161 rfl rfl (by decide) jEq.rf (by decide) (by omega) (by omega) (fun y161 he161 => ?_)
                                refine J_goto (tgt := 30) dX7_findForm_164 (by decide) ?_
                                refine J.mask [true, true, true, false, false, false, false] ?_
                                exact ih30 _ y161 F21n129 hW he ha0 hb_rw hb_fm hO_a0 hK_a0 hAF21n129 ha_RW (by (try simp only [he161.eq, true_and, and_true]) <;> omega) (by rw [he161.eq, show (i2n30.toInt + 1).toNat = i2n30.toInt.toNat + 1 by omega]; exact (jbs_step (K := i2n30.toInt.toNat) (t := y42.toInt) (b := decide (y55.toInt = 1)) (by omega) (decide_eq_decide.mpr (by omega)) hb (fun _ j hj => hcp j (by omega)) (fun z => absurd ((jlx_at (n := n.toInt.toNat) (i := i5n61.toInt.toNat) (F := (jim x1.toInt (fun q => (RW q).toInt) n.toInt.toNat y42.toInt (decide (y55.toInt = 1)))) (B := (fun q => (F21n30 q).toInt)) (by omega) (fun j hj => heq j (by omega)) (fun z => c87x z)).mpr (by have q := c122x; omega)) z))) (by (try simp only [he161.eq, true_and, and_true]) <;> omega)
                              · refine J_aload_n dX7_findForm_138 rfl ?_
                                refine J_get jf_X7_31 dX7_findForm_139 hO_a0 hF_fm ?_
                                refine J_iload dX7_findForm_142 rfl ?_
                                refine J_aload_n dX7_findForm_144 rfl ?_
                                refine J_iload_n dX7_findForm_145 rfl ?_
                                refine J_iload_n dX7_findForm_146 rfl ?_
                                refine J_iload dX7_findForm_147 rfl ?_
                                refine J_iload dX7_findForm_149 rfl ?_
                                refine Jw_callV4 (q9 := (RX7, TX7, 34)) moX7_tried jw_ml_X7_170 jw_im_X7_tried jw_se_X7_tried ha0 rfl rfl dX7_findForm_151 (w_X7_tried_z (d - 1) _ a0 x1 y42 y55 i6n129 n rw RW (by omega) hW  ha0 (by omega) (by omega) ⟨_, hO_a0, hF_n⟩ ⟨_, hO_a0, hF_rw⟩ ha_RW (by omega) (by omega) (by omega) (by omega) (by omega) (by omega) (by omega)) (by omega) (Nat.zero_le _) (Nat.zero_le _) (Nat.le_of_ble_eq_true rfl) (fun r151 V151 h151 => ?_)
                                obtain ⟨⟨y151, rfl, hl151, hh151, hP151_0⟩, hE151⟩ := h151
                                have hE151 := hE151.symm
                                subst hE151
                                clear hl151 hh151
                                have hz151 : jEq y151.toInt ((jim (x1.toInt) (fun q => (RW q).toInt) (n.toInt).toNat (y42.toInt) (decide ((y55.toInt) = 1)) (i6n129.toInt).toNat)) := hP151_0
                                clear hP151_0
                                have hjb := jim_b (g := x1.toInt) (t := y42.toInt) (T := (fun q => (RW q).toInt)) (n := n.toInt.toNat) (b := decide (y55.toInt = 1)) (by omega) (by omega) (fun q hq => hp3 q (by omega)) (i := i6n129.toInt.toNat) (by omega)
                                refine Jz_iast (r := ((-2147483648), 2147483647)) jEq.rf hz151 hW id dX7_findForm_154 hAF21n129 rfl rfl (by omega) (by omega) (by omega) (by omega) (fun V154 G154 hW hx154 hA154 hp154 ho154 => ?_)
                                obtain ⟨hN154, hv154⟩ := WT_rngI (r := ((-2147483648), 2147483647)) hW id rfl hA154
                                clear hN154
                                have he := he.trans (hx154.sub (jsub_of rfl))
                                have ha0 := ha0.mono hx154.1
                                have hb_rw := hb_rw.mono hx154.1
                                have hb_fm := hb_fm.mono hx154.1
                                have hO_a0 := hx154.2 _ _ hO_a0 (jnot_of rfl)
                                have hK_a0 := hK_a0.mono hx154.1
                                have ha_RW := hx154.2 _ _ ha_RW (jnot_of rfl)
                                refine Jz_iinc 1 dX7_findForm_155 rfl rfl (by decide) jEq.rf (by decide) (by omega) (by omega) (fun y155 he155 => ?_)
                                refine J_goto (tgt := 129) dX7_findForm_158 (by decide) ?_
                                refine J.mask [true, true, true, true, true, true, true] ?_
                                exact ih129 _ y155 G154 hW he ha0 hb_rw hb_fm hO_a0 hK_a0 hA154 ha_RW (by (try simp only [he155.eq, true_and, and_true]) <;> omega) (fun j hj => by rw [he155.eq] at hj; by_cases h9 : (j : Int) = i6n129.toInt; (have e : j = i6n129.toInt.toNat := by omega); subst e; rw [hp154, hz151.eq]; rw [ho154 j (by omega)]; exact hcp j (by omega)) (by (try simp only [he155.eq, true_and, and_true]) <;> omega)
                          refine J.mask [true, true, true, true, true, true, true] ?_
                          exact L129 _ _ i5n61 F21n30 hW he ha0 hb_rw hb_fm hO_a0 hK_a0 hAF21n30 ha_RW (by omega) (fun j hj => (heq j hj).symm) (Nat.lt_succ_self _)
                    · refine J_aload_n dX7_findForm_70 rfl ?_
                      refine J_iload_n dX7_findForm_71 rfl ?_
                      refine J_iload_n dX7_findForm_72 rfl ?_
                      refine J_iload dX7_findForm_73 rfl ?_
                      refine J_iload dX7_findForm_75 rfl ?_
                      refine Jw_callV4 (q9 := (RX7, TX7, 34)) moX7_tried jw_ml_X7_170 jw_im_X7_tried jw_se_X7_tried ha0 rfl rfl dX7_findForm_77 (w_X7_tried_z (d - 1) _ a0 x1 y42 y55 i5n61 n rw RW (by omega) hW  ha0 (by omega) (by omega) ⟨_, hO_a0, hF_n⟩ ⟨_, hO_a0, hF_rw⟩ ha_RW (by omega) (by omega) (by omega) (by omega) (by omega) (by omega) (by omega)) (by omega) (Nat.zero_le _) (Nat.zero_le _) (Nat.le_of_ble_eq_true rfl) (fun r77 V77 h77 => ?_)
                      obtain ⟨⟨y77, rfl, hl77, hh77, hP77_0⟩, hE77⟩ := h77
                      have hE77 := hE77.symm
                      subst hE77
                      clear hl77 hh77
                      have hz77 : jEq y77.toInt ((jim (x1.toInt) (fun q => (RW q).toInt) (n.toInt).toNat (y42.toInt) (decide ((y55.toInt) = 1)) (i5n61.toInt).toNat)) := hP77_0
                      clear hP77_0
                      refine J_aload_n dX7_findForm_80 rfl ?_
                      refine J_get jf_X7_31 dX7_findForm_81 hO_a0 hF_fm ?_
                      refine J_iload dX7_findForm_84 rfl ?_
                      refine Jz_iald (r := ((-2147483648), 2147483647)) jEq.rf dX7_findForm_86 hAF21n30 rfl hvF21n30 (by omega) (by omega) (fun y86 hf86 hl86 hh86 => ?_)
                      dsimp only at hl86 hh86
                      clear hl86 hh86
                      have hq86 : (F21n30 i5n61.toInt.toNat).toInt = y86.toInt := by rw [hf86]
                      refine Jz_icmp_ne (tgt := 96) hz77 jEq.rf dX7_findForm_87 (by decide) (fun c87 => ?_) (fun c87 => ?_)
                      · refine J_iload dX7_findForm_96 rfl ?_
                        refine J_aload_n dX7_findForm_98 rfl ?_
                        refine J_get jf_X7_109 dX7_findForm_99 hO_a0 hF_n ?_
                        refine Jz_icmp_ge (tgt := 161) jEq.rf jEq.rf dX7_findForm_102 (by decide) (fun c102 => ?_) (fun c102 => ?_)
                        · refine Jz_iinc 1 dX7_findForm_161 rfl rfl (by decide) jEq.rf (by decide) (by omega) (by omega) (fun y161 he161 => ?_)
                          refine J_goto (tgt := 30) dX7_findForm_164 (by decide) ?_
                          refine J.mask [true, true, true, false, false, false, false] ?_
                          exact ih30 _ y161 F21n30 hW he ha0 hb_rw hb_fm hO_a0 hK_a0 hAF21n30 ha_RW (by (try simp only [he161.eq, true_and, and_true]) <;> omega) (by rw [he161.eq, show (i2n30.toInt + 1).toNat = i2n30.toInt.toNat + 1 by omega]; exact (jbs_step (K := i2n30.toInt.toNat) (t := y42.toInt) (b := decide (y55.toInt = 1)) (by omega) (decide_eq_decide.mpr (by omega)) hb (fun z => absurd z (jlx_eq (fun j hj => heq j (by omega)))) (fun _ j _ => rfl))) (by (try simp only [he161.eq, true_and, and_true]) <;> omega)
                        · refine J_aload_n dX7_findForm_105 rfl ?_
                          refine J_iload_n dX7_findForm_106 rfl ?_
                          refine J_iload_n dX7_findForm_107 rfl ?_
                          refine J_iload dX7_findForm_108 rfl ?_
                          refine J_iload dX7_findForm_110 rfl ?_
                          have c87x : ¬ (jim x1.toInt (fun q => (RW q).toInt) n.toInt.toNat y42.toInt (decide (y55.toInt = 1)) i5n61.toInt.toNat) = (F21n30 i5n61.toInt.toNat).toInt := by first | omega | (rw [hq86]; omega)
                          refine Jw_callV4 (q9 := (RX7, TX7, 34)) moX7_tried jw_ml_X7_170 jw_im_X7_tried jw_se_X7_tried ha0 rfl rfl dX7_findForm_112 (w_X7_tried_z (d - 1) _ a0 x1 y42 y55 i5n61 n rw RW (by omega) hW  ha0 (by omega) (by omega) ⟨_, hO_a0, hF_n⟩ ⟨_, hO_a0, hF_rw⟩ ha_RW (by omega) (by omega) (by omega) (by omega) (by omega) (by omega) (by omega)) (by omega) (Nat.zero_le _) (Nat.zero_le _) (Nat.le_of_ble_eq_true rfl) (fun r112 V112 h112 => ?_)
                          obtain ⟨⟨y112, rfl, hl112, hh112, hP112_0⟩, hE112⟩ := h112
                          have hE112 := hE112.symm
                          subst hE112
                          clear hl112 hh112
                          have hz112 : jEq y112.toInt ((jim (x1.toInt) (fun q => (RW q).toInt) (n.toInt).toNat (y42.toInt) (decide ((y55.toInt) = 1)) (i5n61.toInt).toNat)) := hP112_0
                          clear hP112_0
                          refine J_aload_n dX7_findForm_115 rfl ?_
                          refine J_get jf_X7_31 dX7_findForm_116 hO_a0 hF_fm ?_
                          refine J_iload dX7_findForm_119 rfl ?_
                          refine Jz_iald (r := ((-2147483648), 2147483647)) jEq.rf dX7_findForm_121 hAF21n30 rfl hvF21n30 (by omega) (by omega) (fun y121 hf121 hl121 hh121 => ?_)
                          dsimp only at hl121 hh121
                          clear hl121 hh121
                          have he121 : jEq y121.toInt (y86.toInt) := by rw [← hf121, hf86]; exact jEq.rf
                          refine Jz_icmp_ge (tgt := 161) hz112 he121 dX7_findForm_122 (by decide) (fun c122 => ?_) (fun c122 => ?_)
                          · refine Jz_iinc 1 dX7_findForm_161 rfl rfl (by decide) jEq.rf (by decide) (by omega) (by omega) (fun y161 he161 => ?_)
                            refine J_goto (tgt := 30) dX7_findForm_164 (by decide) ?_
                            refine J.mask [true, true, true, false, false, false, false] ?_
                            exact ih30 _ y161 F21n30 hW he ha0 hb_rw hb_fm hO_a0 hK_a0 hAF21n30 ha_RW (by (try simp only [he161.eq, true_and, and_true]) <;> omega) (by rw [he161.eq, show (i2n30.toInt + 1).toNat = i2n30.toInt.toNat + 1 by omega]; exact (jbs_step (K := i2n30.toInt.toNat) (t := y42.toInt) (b := decide (y55.toInt = 1)) (by omega) (decide_eq_decide.mpr (by omega)) hb (fun z => absurd ((jlx_at (n := n.toInt.toNat) (i := i5n61.toInt.toNat) (F := (jim x1.toInt (fun q => (RW q).toInt) n.toInt.toNat y42.toInt (decide (y55.toInt = 1)))) (B := (fun q => (F21n30 q).toInt)) (by omega) (fun j hj => heq j (by omega)) (fun z => c87x z)).mp z) (fun z3 => by have z4 : (jim x1.toInt (fun q => (RW q).toInt) n.toInt.toNat y42.toInt (decide (y55.toInt = 1)) i5n61.toInt.toNat) < (F21n30 i5n61.toInt.toNat).toInt := z3; first | omega | (rw [hq86] at z4; omega))) (fun _ j _ => rfl))) (by (try simp only [he161.eq, true_and, and_true]) <;> omega)
                          · have c122x : (jim x1.toInt (fun q => (RW q).toInt) n.toInt.toNat y42.toInt (decide (y55.toInt = 1)) i5n61.toInt.toNat) < (F21n30 i5n61.toInt.toNat).toInt := by first | omega | (rw [hq86]; omega)
                            refine J_iload dX7_findForm_125 rfl ?_
                            refine J_istore dX7_findForm_127 rfl (by decide) ?_
                            have L129 : ∀ (N : Nat) (V : jH) (i6n129 : Int32) (F21n129 : Nat → Int32), WT V → jeff [.inl 21] V0 V → (jis V (.inr 5) a0) → (jis V (.inl 17) rw) → (jis V (.inl 21) fm) → (V a0 = some (.inr (5, fs_a0))) → (jokO V (jFs 5) fs_a0) → (V fm = some (.inl (21, 60, .inl F21n129))) → (V rw = some (.inl (17, 120, .inl RW))) → (i5n61.toInt ≤ i6n129.toInt ∧ i6n129.toInt ≤ n.toInt) → (∀ j : Nat, (j : Int) < i6n129.toInt → (F21n129 j).toInt = (jim x1.toInt (fun q => (RW q).toInt) n.toInt.toNat y42.toInt (decide (y55.toInt = 1)) j)) → (300 - i6n129.toInt).toNat < N → J tS mX7_findForm d 129 [some (.ref a0), some (.int x1), some (.int i2n30), some (.int y42), some (.int y55), some (.int i5n61), some (.int i6n129)] [] V 0 0 (fun r V => (jPost [.inl 21] V0 rV) r V ∧ (∃ F2 : Nat → Int32, V fm = some (.inl (21, 60, .inl F2)) ∧ ∀ j : Nat, j < n.toInt.toNat → (F2 j).toInt = jbs x1.toInt (fun q => (RW q).toInt) n.toInt.toNat (2 * jtur x1.toInt).toNat j)) := by
                              intro N
                              induction N with
                              | zero => intro V i6n129 F21n129 hW he ha0 hb_rw hb_fm hO_a0 hK_a0 hAF21n129 ha_RW hi6 hcp hm; exact absurd hm (Nat.not_lt_zero _)
                              | succ N ih =>
                                intro V i6n129 F21n129 hW he ha0 hb_rw hb_fm hO_a0 hK_a0 hAF21n129 ha_RW hi6 hcp hm
                                have ih129 := ih
                                have hri6 := j_rng i6n129
                                obtain ⟨hNF21n129, hvF21n129⟩ := WT_rngI (r := ((-2147483648), 2147483647)) hW id rfl hAF21n129
                                clear hNF21n129
                                refine J_iload dX7_findForm_129 rfl ?_
                                refine J_aload_n dX7_findForm_131 rfl ?_
                                refine J_get jf_X7_109 dX7_findForm_132 hO_a0 hF_n ?_
                                refine Jz_icmp_ge (tgt := 161) jEq.rf jEq.rf dX7_findForm_135 (by decide) (fun c135 => ?_) (fun c135 => ?_)
                                · refine Jz_iinc 1 dX7_findForm_161 rfl rfl (by decide) jEq.rf (by decide) (by omega) (by omega) (fun y161 he161 => ?_)
                                  refine J_goto (tgt := 30) dX7_findForm_164 (by decide) ?_
                                  refine J.mask [true, true, true, false, false, false, false] ?_
                                  exact ih30 _ y161 F21n129 hW he ha0 hb_rw hb_fm hO_a0 hK_a0 hAF21n129 ha_RW (by (try simp only [he161.eq, true_and, and_true]) <;> omega) (by rw [he161.eq, show (i2n30.toInt + 1).toNat = i2n30.toInt.toNat + 1 by omega]; exact (jbs_step (K := i2n30.toInt.toNat) (t := y42.toInt) (b := decide (y55.toInt = 1)) (by omega) (decide_eq_decide.mpr (by omega)) hb (fun _ j hj => hcp j (by omega)) (fun z => absurd ((jlx_at (n := n.toInt.toNat) (i := i5n61.toInt.toNat) (F := (jim x1.toInt (fun q => (RW q).toInt) n.toInt.toNat y42.toInt (decide (y55.toInt = 1)))) (B := (fun q => (F21n30 q).toInt)) (by omega) (fun j hj => heq j (by omega)) (fun z => c87x z)).mpr (by have q := c122x; omega)) z))) (by (try simp only [he161.eq, true_and, and_true]) <;> omega)
                                · refine J_aload_n dX7_findForm_138 rfl ?_
                                  refine J_get jf_X7_31 dX7_findForm_139 hO_a0 hF_fm ?_
                                  refine J_iload dX7_findForm_142 rfl ?_
                                  refine J_aload_n dX7_findForm_144 rfl ?_
                                  refine J_iload_n dX7_findForm_145 rfl ?_
                                  refine J_iload_n dX7_findForm_146 rfl ?_
                                  refine J_iload dX7_findForm_147 rfl ?_
                                  refine J_iload dX7_findForm_149 rfl ?_
                                  refine Jw_callV4 (q9 := (RX7, TX7, 34)) moX7_tried jw_ml_X7_170 jw_im_X7_tried jw_se_X7_tried ha0 rfl rfl dX7_findForm_151 (w_X7_tried_z (d - 1) _ a0 x1 y42 y55 i6n129 n rw RW (by omega) hW  ha0 (by omega) (by omega) ⟨_, hO_a0, hF_n⟩ ⟨_, hO_a0, hF_rw⟩ ha_RW (by omega) (by omega) (by omega) (by omega) (by omega) (by omega) (by omega)) (by omega) (Nat.zero_le _) (Nat.zero_le _) (Nat.le_of_ble_eq_true rfl) (fun r151 V151 h151 => ?_)
                                  obtain ⟨⟨y151, rfl, hl151, hh151, hP151_0⟩, hE151⟩ := h151
                                  have hE151 := hE151.symm
                                  subst hE151
                                  clear hl151 hh151
                                  have hz151 : jEq y151.toInt ((jim (x1.toInt) (fun q => (RW q).toInt) (n.toInt).toNat (y42.toInt) (decide ((y55.toInt) = 1)) (i6n129.toInt).toNat)) := hP151_0
                                  clear hP151_0
                                  have hjb := jim_b (g := x1.toInt) (t := y42.toInt) (T := (fun q => (RW q).toInt)) (n := n.toInt.toNat) (b := decide (y55.toInt = 1)) (by omega) (by omega) (fun q hq => hp3 q (by omega)) (i := i6n129.toInt.toNat) (by omega)
                                  refine Jz_iast (r := ((-2147483648), 2147483647)) jEq.rf hz151 hW id dX7_findForm_154 hAF21n129 rfl rfl (by omega) (by omega) (by omega) (by omega) (fun V154 G154 hW hx154 hA154 hp154 ho154 => ?_)
                                  obtain ⟨hN154, hv154⟩ := WT_rngI (r := ((-2147483648), 2147483647)) hW id rfl hA154
                                  clear hN154
                                  have he := he.trans (hx154.sub (jsub_of rfl))
                                  have ha0 := ha0.mono hx154.1
                                  have hb_rw := hb_rw.mono hx154.1
                                  have hb_fm := hb_fm.mono hx154.1
                                  have hO_a0 := hx154.2 _ _ hO_a0 (jnot_of rfl)
                                  have hK_a0 := hK_a0.mono hx154.1
                                  have ha_RW := hx154.2 _ _ ha_RW (jnot_of rfl)
                                  refine Jz_iinc 1 dX7_findForm_155 rfl rfl (by decide) jEq.rf (by decide) (by omega) (by omega) (fun y155 he155 => ?_)
                                  refine J_goto (tgt := 129) dX7_findForm_158 (by decide) ?_
                                  refine J.mask [true, true, true, true, true, true, true] ?_
                                  exact ih129 _ y155 G154 hW he ha0 hb_rw hb_fm hO_a0 hK_a0 hA154 ha_RW (by (try simp only [he155.eq, true_and, and_true]) <;> omega) (fun j hj => by rw [he155.eq] at hj; by_cases h9 : (j : Int) = i6n129.toInt; (have e : j = i6n129.toInt.toNat := by omega); subst e; rw [hp154, hz151.eq]; rw [ho154 j (by omega)]; exact hcp j (by omega)) (by (try simp only [he155.eq, true_and, and_true]) <;> omega)
                            refine J.mask [true, true, true, true, true, true, true] ?_
                            exact L129 _ _ i5n61 F21n30 hW he ha0 hb_rw hb_fm hO_a0 hK_a0 hAF21n30 ha_RW (by omega) (fun j hj => (heq j hj).symm) (Nat.lt_succ_self _)
                      · refine Jz_iinc 1 dX7_findForm_90 rfl rfl (by decide) jEq.rf (by decide) (by omega) (by omega) (fun y90 he90 => ?_)
                        refine J_goto (tgt := 61) dX7_findForm_93 (by decide) ?_
                        refine J.mask [true, true, true, true, true, true, false] ?_
                        exact ih61  y90  (by (try simp only [he90.eq, true_and, and_true]) <;> omega) (fun j hj => by rw [he90.eq] at hj; by_cases h9 : (j : Int) = i5n61.toInt; (have e : j = i5n61.toInt.toNat := by omega); subst e; rw [hf86]; omega; exact heq j (by omega)) (by (try simp only [he90.eq, true_and, and_true]) <;> omega)
                refine J.mask [true, true, true, true, true, true, false] ?_
                exact L61 _  y58    (by (try simp only [he58.eq, true_and, and_true]) <;> omega) (fun j hj => by rw [he58.eq] at hj; omega) (Nat.lt_succ_self _)
              · refine Jz_iconst 1 dX7_findForm_51 (by decide) (fun y51 he51 => ?_)
                have hoq51 : y51.toInt = 1 := he51.eq
                refine J_goto (tgt := 56) dX7_findForm_52 (by decide) ?_
                refine J_istore dX7_findForm_56 rfl (by decide) ?_
                refine Jz_iconst 0 dX7_findForm_58 (by decide) (fun y58 he58 => ?_)
                refine J_istore dX7_findForm_59 rfl (by decide) ?_
                have L61 : ∀ (N : Nat) (i5n61 : Int32), (0 ≤ i5n61.toInt ∧ i5n61.toInt ≤ n.toInt) → (∀ j : Nat, (j : Int) < i5n61.toInt → (jim x1.toInt (fun q => (RW q).toInt) n.toInt.toNat y42.toInt (decide (y51.toInt = 1)) j) = (F21n30 j).toInt) → (300 - i5n61.toInt).toNat < N → J tS mX7_findForm d 61 [some (.ref a0), some (.int x1), some (.int i2n30), some (.int y42), some (.int y51), some (.int i5n61), none] [] V 0 0 (fun r V => (jPost [.inl 21] V0 rV) r V ∧ (∃ F2 : Nat → Int32, V fm = some (.inl (21, 60, .inl F2)) ∧ ∀ j : Nat, j < n.toInt.toNat → (F2 j).toInt = jbs x1.toInt (fun q => (RW q).toInt) n.toInt.toNat (2 * jtur x1.toInt).toNat j)) := by
                  intro N
                  induction N with
                  | zero => intro i5n61  hi5 heq hm; exact absurd hm (Nat.not_lt_zero _)
                  | succ N ih =>
                    intro i5n61  hi5 heq hm
                    have ih61 := ih
                    have hri5 := j_rng i5n61
                    refine J_iload dX7_findForm_61 rfl ?_
                    refine J_aload_n dX7_findForm_63 rfl ?_
                    refine J_get jf_X7_109 dX7_findForm_64 hO_a0 hF_n ?_
                    refine Jz_icmp_ge (tgt := 96) jEq.rf jEq.rf dX7_findForm_67 (by decide) (fun c67 => ?_) (fun c67 => ?_)
                    · refine J_iload dX7_findForm_96 rfl ?_
                      refine J_aload_n dX7_findForm_98 rfl ?_
                      refine J_get jf_X7_109 dX7_findForm_99 hO_a0 hF_n ?_
                      refine Jz_icmp_ge (tgt := 161) jEq.rf jEq.rf dX7_findForm_102 (by decide) (fun c102 => ?_) (fun c102 => ?_)
                      · refine Jz_iinc 1 dX7_findForm_161 rfl rfl (by decide) jEq.rf (by decide) (by omega) (by omega) (fun y161 he161 => ?_)
                        refine J_goto (tgt := 30) dX7_findForm_164 (by decide) ?_
                        refine J.mask [true, true, true, false, false, false, false] ?_
                        exact ih30 _ y161 F21n30 hW he ha0 hb_rw hb_fm hO_a0 hK_a0 hAF21n30 ha_RW (by (try simp only [he161.eq, true_and, and_true]) <;> omega) (by rw [he161.eq, show (i2n30.toInt + 1).toNat = i2n30.toInt.toNat + 1 by omega]; exact (jbs_step (K := i2n30.toInt.toNat) (t := y42.toInt) (b := decide (y51.toInt = 1)) (by omega) (decide_eq_decide.mpr (by omega)) hb (fun z => absurd z (jlx_eq (fun j hj => heq j (by omega)))) (fun _ j _ => rfl))) (by (try simp only [he161.eq, true_and, and_true]) <;> omega)
                      · refine J_aload_n dX7_findForm_105 rfl ?_
                        refine J_iload_n dX7_findForm_106 rfl ?_
                        refine J_iload_n dX7_findForm_107 rfl ?_
                        refine J_iload dX7_findForm_108 rfl ?_
                        refine J_iload dX7_findForm_110 rfl ?_
                        have c87x : ¬ (jim x1.toInt (fun q => (RW q).toInt) n.toInt.toNat y42.toInt (decide (y51.toInt = 1)) i5n61.toInt.toNat) = (F21n30 i5n61.toInt.toNat).toInt := by first | omega | (rw [hq86]; omega)
                        refine Jw_callV4 (q9 := (RX7, TX7, 34)) moX7_tried jw_ml_X7_170 jw_im_X7_tried jw_se_X7_tried ha0 rfl rfl dX7_findForm_112 (w_X7_tried_z (d - 1) _ a0 x1 y42 y51 i5n61 n rw RW (by omega) hW  ha0 (by omega) (by omega) ⟨_, hO_a0, hF_n⟩ ⟨_, hO_a0, hF_rw⟩ ha_RW (by omega) (by omega) (by omega) (by omega) (by omega) (by omega) (by omega)) (by omega) (Nat.zero_le _) (Nat.zero_le _) (Nat.le_of_ble_eq_true rfl) (fun r112 V112 h112 => ?_)
                        obtain ⟨⟨y112, rfl, hl112, hh112, hP112_0⟩, hE112⟩ := h112
                        have hE112 := hE112.symm
                        subst hE112
                        clear hl112 hh112
                        have hz112 : jEq y112.toInt ((jim (x1.toInt) (fun q => (RW q).toInt) (n.toInt).toNat (y42.toInt) (decide ((y51.toInt) = 1)) (i5n61.toInt).toNat)) := hP112_0
                        clear hP112_0
                        refine J_aload_n dX7_findForm_115 rfl ?_
                        refine J_get jf_X7_31 dX7_findForm_116 hO_a0 hF_fm ?_
                        refine J_iload dX7_findForm_119 rfl ?_
                        refine Jz_iald (r := ((-2147483648), 2147483647)) jEq.rf dX7_findForm_121 hAF21n30 rfl hvF21n30 (by omega) (by omega) (fun y121 hf121 hl121 hh121 => ?_)
                        dsimp only at hl121 hh121
                        clear hl121 hh121
                        refine Jz_icmp_ge (tgt := 161) hz112 jEq.rf dX7_findForm_122 (by decide) (fun c122 => ?_) (fun c122 => ?_)
                        · refine Jz_iinc 1 dX7_findForm_161 rfl rfl (by decide) jEq.rf (by decide) (by omega) (by omega) (fun y161 he161 => ?_)
                          refine J_goto (tgt := 30) dX7_findForm_164 (by decide) ?_
                          refine J.mask [true, true, true, false, false, false, false] ?_
                          exact ih30 _ y161 F21n30 hW he ha0 hb_rw hb_fm hO_a0 hK_a0 hAF21n30 ha_RW (by (try simp only [he161.eq, true_and, and_true]) <;> omega) (by rw [he161.eq, show (i2n30.toInt + 1).toNat = i2n30.toInt.toNat + 1 by omega]; exact (jbs_step (K := i2n30.toInt.toNat) (t := y42.toInt) (b := decide (y51.toInt = 1)) (by omega) (decide_eq_decide.mpr (by omega)) hb (fun z => absurd ((jlx_at (n := n.toInt.toNat) (i := i5n61.toInt.toNat) (F := (jim x1.toInt (fun q => (RW q).toInt) n.toInt.toNat y42.toInt (decide (y51.toInt = 1)))) (B := (fun q => (F21n30 q).toInt)) (by omega) (fun j hj => heq j (by omega)) (fun z => c87x z)).mp z) (fun z3 => by have z4 : (jim x1.toInt (fun q => (RW q).toInt) n.toInt.toNat y42.toInt (decide (y51.toInt = 1)) i5n61.toInt.toNat) < (F21n30 i5n61.toInt.toNat).toInt := z3; first | omega | (rw [hq86] at z4; omega))) (fun _ j _ => rfl))) (by (try simp only [he161.eq, true_and, and_true]) <;> omega)
                        · have c122x : (jim x1.toInt (fun q => (RW q).toInt) n.toInt.toNat y42.toInt (decide (y51.toInt = 1)) i5n61.toInt.toNat) < (F21n30 i5n61.toInt.toNat).toInt := by first | omega | (rw [hq86]; omega)
                          refine J_iload dX7_findForm_125 rfl ?_
                          refine J_istore dX7_findForm_127 rfl (by decide) ?_
                          have L129 : ∀ (N : Nat) (V : jH) (i6n129 : Int32) (F21n129 : Nat → Int32), WT V → jeff [.inl 21] V0 V → (jis V (.inr 5) a0) → (jis V (.inl 17) rw) → (jis V (.inl 21) fm) → (V a0 = some (.inr (5, fs_a0))) → (jokO V (jFs 5) fs_a0) → (V fm = some (.inl (21, 60, .inl F21n129))) → (V rw = some (.inl (17, 120, .inl RW))) → (i5n61.toInt ≤ i6n129.toInt ∧ i6n129.toInt ≤ n.toInt) → (∀ j : Nat, (j : Int) < i6n129.toInt → (F21n129 j).toInt = (jim x1.toInt (fun q => (RW q).toInt) n.toInt.toNat y42.toInt (decide (y51.toInt = 1)) j)) → (300 - i6n129.toInt).toNat < N → J tS mX7_findForm d 129 [some (.ref a0), some (.int x1), some (.int i2n30), some (.int y42), some (.int y51), some (.int i5n61), some (.int i6n129)] [] V 0 0 (fun r V => (jPost [.inl 21] V0 rV) r V ∧ (∃ F2 : Nat → Int32, V fm = some (.inl (21, 60, .inl F2)) ∧ ∀ j : Nat, j < n.toInt.toNat → (F2 j).toInt = jbs x1.toInt (fun q => (RW q).toInt) n.toInt.toNat (2 * jtur x1.toInt).toNat j)) := by
                            intro N
                            induction N with
                            | zero => intro V i6n129 F21n129 hW he ha0 hb_rw hb_fm hO_a0 hK_a0 hAF21n129 ha_RW hi6 hcp hm; exact absurd hm (Nat.not_lt_zero _)
                            | succ N ih =>
                              intro V i6n129 F21n129 hW he ha0 hb_rw hb_fm hO_a0 hK_a0 hAF21n129 ha_RW hi6 hcp hm
                              have ih129 := ih
                              have hri6 := j_rng i6n129
                              obtain ⟨hNF21n129, hvF21n129⟩ := WT_rngI (r := ((-2147483648), 2147483647)) hW id rfl hAF21n129
                              clear hNF21n129
                              refine J_iload dX7_findForm_129 rfl ?_
                              refine J_aload_n dX7_findForm_131 rfl ?_
                              refine J_get jf_X7_109 dX7_findForm_132 hO_a0 hF_n ?_
                              refine Jz_icmp_ge (tgt := 161) jEq.rf jEq.rf dX7_findForm_135 (by decide) (fun c135 => ?_) (fun c135 => ?_)
                              · refine Jz_iinc 1 dX7_findForm_161 rfl rfl (by decide) jEq.rf (by decide) (by omega) (by omega) (fun y161 he161 => ?_)
                                refine J_goto (tgt := 30) dX7_findForm_164 (by decide) ?_
                                refine J.mask [true, true, true, false, false, false, false] ?_
                                exact ih30 _ y161 F21n129 hW he ha0 hb_rw hb_fm hO_a0 hK_a0 hAF21n129 ha_RW (by (try simp only [he161.eq, true_and, and_true]) <;> omega) (by rw [he161.eq, show (i2n30.toInt + 1).toNat = i2n30.toInt.toNat + 1 by omega]; exact (jbs_step (K := i2n30.toInt.toNat) (t := y42.toInt) (b := decide (y51.toInt = 1)) (by omega) (decide_eq_decide.mpr (by omega)) hb (fun _ j hj => hcp j (by omega)) (fun z => absurd ((jlx_at (n := n.toInt.toNat) (i := i5n61.toInt.toNat) (F := (jim x1.toInt (fun q => (RW q).toInt) n.toInt.toNat y42.toInt (decide (y51.toInt = 1)))) (B := (fun q => (F21n30 q).toInt)) (by omega) (fun j hj => heq j (by omega)) (fun z => c87x z)).mpr (by have q := c122x; omega)) z))) (by (try simp only [he161.eq, true_and, and_true]) <;> omega)
                              · refine J_aload_n dX7_findForm_138 rfl ?_
                                refine J_get jf_X7_31 dX7_findForm_139 hO_a0 hF_fm ?_
                                refine J_iload dX7_findForm_142 rfl ?_
                                refine J_aload_n dX7_findForm_144 rfl ?_
                                refine J_iload_n dX7_findForm_145 rfl ?_
                                refine J_iload_n dX7_findForm_146 rfl ?_
                                refine J_iload dX7_findForm_147 rfl ?_
                                refine J_iload dX7_findForm_149 rfl ?_
                                refine Jw_callV4 (q9 := (RX7, TX7, 34)) moX7_tried jw_ml_X7_170 jw_im_X7_tried jw_se_X7_tried ha0 rfl rfl dX7_findForm_151 (w_X7_tried_z (d - 1) _ a0 x1 y42 y51 i6n129 n rw RW (by omega) hW  ha0 (by omega) (by omega) ⟨_, hO_a0, hF_n⟩ ⟨_, hO_a0, hF_rw⟩ ha_RW (by omega) (by omega) (by omega) (by omega) (by omega) (by omega) (by omega)) (by omega) (Nat.zero_le _) (Nat.zero_le _) (Nat.le_of_ble_eq_true rfl) (fun r151 V151 h151 => ?_)
                                obtain ⟨⟨y151, rfl, hl151, hh151, hP151_0⟩, hE151⟩ := h151
                                have hE151 := hE151.symm
                                subst hE151
                                clear hl151 hh151
                                have hz151 : jEq y151.toInt ((jim (x1.toInt) (fun q => (RW q).toInt) (n.toInt).toNat (y42.toInt) (decide ((y51.toInt) = 1)) (i6n129.toInt).toNat)) := hP151_0
                                clear hP151_0
                                have hjb := jim_b (g := x1.toInt) (t := y42.toInt) (T := (fun q => (RW q).toInt)) (n := n.toInt.toNat) (b := decide (y51.toInt = 1)) (by omega) (by omega) (fun q hq => hp3 q (by omega)) (i := i6n129.toInt.toNat) (by omega)
                                refine Jz_iast (r := ((-2147483648), 2147483647)) jEq.rf hz151 hW id dX7_findForm_154 hAF21n129 rfl rfl (by omega) (by omega) (by omega) (by omega) (fun V154 G154 hW hx154 hA154 hp154 ho154 => ?_)
                                obtain ⟨hN154, hv154⟩ := WT_rngI (r := ((-2147483648), 2147483647)) hW id rfl hA154
                                clear hN154
                                have he := he.trans (hx154.sub (jsub_of rfl))
                                have ha0 := ha0.mono hx154.1
                                have hb_rw := hb_rw.mono hx154.1
                                have hb_fm := hb_fm.mono hx154.1
                                have hO_a0 := hx154.2 _ _ hO_a0 (jnot_of rfl)
                                have hK_a0 := hK_a0.mono hx154.1
                                have ha_RW := hx154.2 _ _ ha_RW (jnot_of rfl)
                                refine Jz_iinc 1 dX7_findForm_155 rfl rfl (by decide) jEq.rf (by decide) (by omega) (by omega) (fun y155 he155 => ?_)
                                refine J_goto (tgt := 129) dX7_findForm_158 (by decide) ?_
                                refine J.mask [true, true, true, true, true, true, true] ?_
                                exact ih129 _ y155 G154 hW he ha0 hb_rw hb_fm hO_a0 hK_a0 hA154 ha_RW (by (try simp only [he155.eq, true_and, and_true]) <;> omega) (fun j hj => by rw [he155.eq] at hj; by_cases h9 : (j : Int) = i6n129.toInt; (have e : j = i6n129.toInt.toNat := by omega); subst e; rw [hp154, hz151.eq]; rw [ho154 j (by omega)]; exact hcp j (by omega)) (by (try simp only [he155.eq, true_and, and_true]) <;> omega)
                          refine J.mask [true, true, true, true, true, true, true] ?_
                          exact L129 _ _ i5n61 F21n30 hW he ha0 hb_rw hb_fm hO_a0 hK_a0 hAF21n30 ha_RW (by omega) (fun j hj => (heq j hj).symm) (Nat.lt_succ_self _)
                    · refine J_aload_n dX7_findForm_70 rfl ?_
                      refine J_iload_n dX7_findForm_71 rfl ?_
                      refine J_iload_n dX7_findForm_72 rfl ?_
                      refine J_iload dX7_findForm_73 rfl ?_
                      refine J_iload dX7_findForm_75 rfl ?_
                      refine Jw_callV4 (q9 := (RX7, TX7, 34)) moX7_tried jw_ml_X7_170 jw_im_X7_tried jw_se_X7_tried ha0 rfl rfl dX7_findForm_77 (w_X7_tried_z (d - 1) _ a0 x1 y42 y51 i5n61 n rw RW (by omega) hW  ha0 (by omega) (by omega) ⟨_, hO_a0, hF_n⟩ ⟨_, hO_a0, hF_rw⟩ ha_RW (by omega) (by omega) (by omega) (by omega) (by omega) (by omega) (by omega)) (by omega) (Nat.zero_le _) (Nat.zero_le _) (Nat.le_of_ble_eq_true rfl) (fun r77 V77 h77 => ?_)
                      obtain ⟨⟨y77, rfl, hl77, hh77, hP77_0⟩, hE77⟩ := h77
                      have hE77 := hE77.symm
                      subst hE77
                      clear hl77 hh77
                      have hz77 : jEq y77.toInt ((jim (x1.toInt) (fun q => (RW q).toInt) (n.toInt).toNat (y42.toInt) (decide ((y51.toInt) = 1)) (i5n61.toInt).toNat)) := hP77_0
                      clear hP77_0
                      refine J_aload_n dX7_findForm_80 rfl ?_
                      refine J_get jf_X7_31 dX7_findForm_81 hO_a0 hF_fm ?_
                      refine J_iload dX7_findForm_84 rfl ?_
                      refine Jz_iald (r := ((-2147483648), 2147483647)) jEq.rf dX7_findForm_86 hAF21n30 rfl hvF21n30 (by omega) (by omega) (fun y86 hf86 hl86 hh86 => ?_)
                      dsimp only at hl86 hh86
                      clear hl86 hh86
                      have hq86 : (F21n30 i5n61.toInt.toNat).toInt = y86.toInt := by rw [hf86]
                      refine Jz_icmp_ne (tgt := 96) hz77 jEq.rf dX7_findForm_87 (by decide) (fun c87 => ?_) (fun c87 => ?_)
                      · refine J_iload dX7_findForm_96 rfl ?_
                        refine J_aload_n dX7_findForm_98 rfl ?_
                        refine J_get jf_X7_109 dX7_findForm_99 hO_a0 hF_n ?_
                        refine Jz_icmp_ge (tgt := 161) jEq.rf jEq.rf dX7_findForm_102 (by decide) (fun c102 => ?_) (fun c102 => ?_)
                        · refine Jz_iinc 1 dX7_findForm_161 rfl rfl (by decide) jEq.rf (by decide) (by omega) (by omega) (fun y161 he161 => ?_)
                          refine J_goto (tgt := 30) dX7_findForm_164 (by decide) ?_
                          refine J.mask [true, true, true, false, false, false, false] ?_
                          exact ih30 _ y161 F21n30 hW he ha0 hb_rw hb_fm hO_a0 hK_a0 hAF21n30 ha_RW (by (try simp only [he161.eq, true_and, and_true]) <;> omega) (by rw [he161.eq, show (i2n30.toInt + 1).toNat = i2n30.toInt.toNat + 1 by omega]; exact (jbs_step (K := i2n30.toInt.toNat) (t := y42.toInt) (b := decide (y51.toInt = 1)) (by omega) (decide_eq_decide.mpr (by omega)) hb (fun z => absurd z (jlx_eq (fun j hj => heq j (by omega)))) (fun _ j _ => rfl))) (by (try simp only [he161.eq, true_and, and_true]) <;> omega)
                        · refine J_aload_n dX7_findForm_105 rfl ?_
                          refine J_iload_n dX7_findForm_106 rfl ?_
                          refine J_iload_n dX7_findForm_107 rfl ?_
                          refine J_iload dX7_findForm_108 rfl ?_
                          refine J_iload dX7_findForm_110 rfl ?_
                          have c87x : ¬ (jim x1.toInt (fun q => (RW q).toInt) n.toInt.toNat y42.toInt (decide (y51.toInt = 1)) i5n61.toInt.toNat) = (F21n30 i5n61.toInt.toNat).toInt := by first | omega | (rw [hq86]; omega)
                          refine Jw_callV4 (q9 := (RX7, TX7, 34)) moX7_tried jw_ml_X7_170 jw_im_X7_tried jw_se_X7_tried ha0 rfl rfl dX7_findForm_112 (w_X7_tried_z (d - 1) _ a0 x1 y42 y51 i5n61 n rw RW (by omega) hW  ha0 (by omega) (by omega) ⟨_, hO_a0, hF_n⟩ ⟨_, hO_a0, hF_rw⟩ ha_RW (by omega) (by omega) (by omega) (by omega) (by omega) (by omega) (by omega)) (by omega) (Nat.zero_le _) (Nat.zero_le _) (Nat.le_of_ble_eq_true rfl) (fun r112 V112 h112 => ?_)
                          obtain ⟨⟨y112, rfl, hl112, hh112, hP112_0⟩, hE112⟩ := h112
                          have hE112 := hE112.symm
                          subst hE112
                          clear hl112 hh112
                          have hz112 : jEq y112.toInt ((jim (x1.toInt) (fun q => (RW q).toInt) (n.toInt).toNat (y42.toInt) (decide ((y51.toInt) = 1)) (i5n61.toInt).toNat)) := hP112_0
                          clear hP112_0
                          refine J_aload_n dX7_findForm_115 rfl ?_
                          refine J_get jf_X7_31 dX7_findForm_116 hO_a0 hF_fm ?_
                          refine J_iload dX7_findForm_119 rfl ?_
                          refine Jz_iald (r := ((-2147483648), 2147483647)) jEq.rf dX7_findForm_121 hAF21n30 rfl hvF21n30 (by omega) (by omega) (fun y121 hf121 hl121 hh121 => ?_)
                          dsimp only at hl121 hh121
                          clear hl121 hh121
                          have he121 : jEq y121.toInt (y86.toInt) := by rw [← hf121, hf86]; exact jEq.rf
                          refine Jz_icmp_ge (tgt := 161) hz112 he121 dX7_findForm_122 (by decide) (fun c122 => ?_) (fun c122 => ?_)
                          · refine Jz_iinc 1 dX7_findForm_161 rfl rfl (by decide) jEq.rf (by decide) (by omega) (by omega) (fun y161 he161 => ?_)
                            refine J_goto (tgt := 30) dX7_findForm_164 (by decide) ?_
                            refine J.mask [true, true, true, false, false, false, false] ?_
                            exact ih30 _ y161 F21n30 hW he ha0 hb_rw hb_fm hO_a0 hK_a0 hAF21n30 ha_RW (by (try simp only [he161.eq, true_and, and_true]) <;> omega) (by rw [he161.eq, show (i2n30.toInt + 1).toNat = i2n30.toInt.toNat + 1 by omega]; exact (jbs_step (K := i2n30.toInt.toNat) (t := y42.toInt) (b := decide (y51.toInt = 1)) (by omega) (decide_eq_decide.mpr (by omega)) hb (fun z => absurd ((jlx_at (n := n.toInt.toNat) (i := i5n61.toInt.toNat) (F := (jim x1.toInt (fun q => (RW q).toInt) n.toInt.toNat y42.toInt (decide (y51.toInt = 1)))) (B := (fun q => (F21n30 q).toInt)) (by omega) (fun j hj => heq j (by omega)) (fun z => c87x z)).mp z) (fun z3 => by have z4 : (jim x1.toInt (fun q => (RW q).toInt) n.toInt.toNat y42.toInt (decide (y51.toInt = 1)) i5n61.toInt.toNat) < (F21n30 i5n61.toInt.toNat).toInt := z3; first | omega | (rw [hq86] at z4; omega))) (fun _ j _ => rfl))) (by (try simp only [he161.eq, true_and, and_true]) <;> omega)
                          · have c122x : (jim x1.toInt (fun q => (RW q).toInt) n.toInt.toNat y42.toInt (decide (y51.toInt = 1)) i5n61.toInt.toNat) < (F21n30 i5n61.toInt.toNat).toInt := by first | omega | (rw [hq86]; omega)
                            refine J_iload dX7_findForm_125 rfl ?_
                            refine J_istore dX7_findForm_127 rfl (by decide) ?_
                            have L129 : ∀ (N : Nat) (V : jH) (i6n129 : Int32) (F21n129 : Nat → Int32), WT V → jeff [.inl 21] V0 V → (jis V (.inr 5) a0) → (jis V (.inl 17) rw) → (jis V (.inl 21) fm) → (V a0 = some (.inr (5, fs_a0))) → (jokO V (jFs 5) fs_a0) → (V fm = some (.inl (21, 60, .inl F21n129))) → (V rw = some (.inl (17, 120, .inl RW))) → (i5n61.toInt ≤ i6n129.toInt ∧ i6n129.toInt ≤ n.toInt) → (∀ j : Nat, (j : Int) < i6n129.toInt → (F21n129 j).toInt = (jim x1.toInt (fun q => (RW q).toInt) n.toInt.toNat y42.toInt (decide (y51.toInt = 1)) j)) → (300 - i6n129.toInt).toNat < N → J tS mX7_findForm d 129 [some (.ref a0), some (.int x1), some (.int i2n30), some (.int y42), some (.int y51), some (.int i5n61), some (.int i6n129)] [] V 0 0 (fun r V => (jPost [.inl 21] V0 rV) r V ∧ (∃ F2 : Nat → Int32, V fm = some (.inl (21, 60, .inl F2)) ∧ ∀ j : Nat, j < n.toInt.toNat → (F2 j).toInt = jbs x1.toInt (fun q => (RW q).toInt) n.toInt.toNat (2 * jtur x1.toInt).toNat j)) := by
                              intro N
                              induction N with
                              | zero => intro V i6n129 F21n129 hW he ha0 hb_rw hb_fm hO_a0 hK_a0 hAF21n129 ha_RW hi6 hcp hm; exact absurd hm (Nat.not_lt_zero _)
                              | succ N ih =>
                                intro V i6n129 F21n129 hW he ha0 hb_rw hb_fm hO_a0 hK_a0 hAF21n129 ha_RW hi6 hcp hm
                                have ih129 := ih
                                have hri6 := j_rng i6n129
                                obtain ⟨hNF21n129, hvF21n129⟩ := WT_rngI (r := ((-2147483648), 2147483647)) hW id rfl hAF21n129
                                clear hNF21n129
                                refine J_iload dX7_findForm_129 rfl ?_
                                refine J_aload_n dX7_findForm_131 rfl ?_
                                refine J_get jf_X7_109 dX7_findForm_132 hO_a0 hF_n ?_
                                refine Jz_icmp_ge (tgt := 161) jEq.rf jEq.rf dX7_findForm_135 (by decide) (fun c135 => ?_) (fun c135 => ?_)
                                · refine Jz_iinc 1 dX7_findForm_161 rfl rfl (by decide) jEq.rf (by decide) (by omega) (by omega) (fun y161 he161 => ?_)
                                  refine J_goto (tgt := 30) dX7_findForm_164 (by decide) ?_
                                  refine J.mask [true, true, true, false, false, false, false] ?_
                                  exact ih30 _ y161 F21n129 hW he ha0 hb_rw hb_fm hO_a0 hK_a0 hAF21n129 ha_RW (by (try simp only [he161.eq, true_and, and_true]) <;> omega) (by rw [he161.eq, show (i2n30.toInt + 1).toNat = i2n30.toInt.toNat + 1 by omega]; exact (jbs_step (K := i2n30.toInt.toNat) (t := y42.toInt) (b := decide (y51.toInt = 1)) (by omega) (decide_eq_decide.mpr (by omega)) hb (fun _ j hj => hcp j (by omega)) (fun z => absurd ((jlx_at (n := n.toInt.toNat) (i := i5n61.toInt.toNat) (F := (jim x1.toInt (fun q => (RW q).toInt) n.toInt.toNat y42.toInt (decide (y51.toInt = 1)))) (B := (fun q => (F21n30 q).toInt)) (by omega) (fun j hj => heq j (by omega)) (fun z => c87x z)).mpr (by have q := c122x; omega)) z))) (by (try simp only [he161.eq, true_and, and_true]) <;> omega)
                                · refine J_aload_n dX7_findForm_138 rfl ?_
                                  refine J_get jf_X7_31 dX7_findForm_139 hO_a0 hF_fm ?_
                                  refine J_iload dX7_findForm_142 rfl ?_
                                  refine J_aload_n dX7_findForm_144 rfl ?_
                                  refine J_iload_n dX7_findForm_145 rfl ?_
                                  refine J_iload_n dX7_findForm_146 rfl ?_
                                  refine J_iload dX7_findForm_147 rfl ?_
                                  refine J_iload dX7_findForm_149 rfl ?_
                                  refine Jw_callV4 (q9 := (RX7, TX7, 34)) moX7_tried jw_ml_X7_170 jw_im_X7_tried jw_se_X7_tried ha0 rfl rfl dX7_findForm_151 (w_X7_tried_z (d - 1) _ a0 x1 y42 y51 i6n129 n rw RW (by omega) hW  ha0 (by omega) (by omega) ⟨_, hO_a0, hF_n⟩ ⟨_, hO_a0, hF_rw⟩ ha_RW (by omega) (by omega) (by omega) (by omega) (by omega) (by omega) (by omega)) (by omega) (Nat.zero_le _) (Nat.zero_le _) (Nat.le_of_ble_eq_true rfl) (fun r151 V151 h151 => ?_)
                                  obtain ⟨⟨y151, rfl, hl151, hh151, hP151_0⟩, hE151⟩ := h151
                                  have hE151 := hE151.symm
                                  subst hE151
                                  clear hl151 hh151
                                  have hz151 : jEq y151.toInt ((jim (x1.toInt) (fun q => (RW q).toInt) (n.toInt).toNat (y42.toInt) (decide ((y51.toInt) = 1)) (i6n129.toInt).toNat)) := hP151_0
                                  clear hP151_0
                                  have hjb := jim_b (g := x1.toInt) (t := y42.toInt) (T := (fun q => (RW q).toInt)) (n := n.toInt.toNat) (b := decide (y51.toInt = 1)) (by omega) (by omega) (fun q hq => hp3 q (by omega)) (i := i6n129.toInt.toNat) (by omega)
                                  refine Jz_iast (r := ((-2147483648), 2147483647)) jEq.rf hz151 hW id dX7_findForm_154 hAF21n129 rfl rfl (by omega) (by omega) (by omega) (by omega) (fun V154 G154 hW hx154 hA154 hp154 ho154 => ?_)
                                  obtain ⟨hN154, hv154⟩ := WT_rngI (r := ((-2147483648), 2147483647)) hW id rfl hA154
                                  clear hN154
                                  have he := he.trans (hx154.sub (jsub_of rfl))
                                  have ha0 := ha0.mono hx154.1
                                  have hb_rw := hb_rw.mono hx154.1
                                  have hb_fm := hb_fm.mono hx154.1
                                  have hO_a0 := hx154.2 _ _ hO_a0 (jnot_of rfl)
                                  have hK_a0 := hK_a0.mono hx154.1
                                  have ha_RW := hx154.2 _ _ ha_RW (jnot_of rfl)
                                  refine Jz_iinc 1 dX7_findForm_155 rfl rfl (by decide) jEq.rf (by decide) (by omega) (by omega) (fun y155 he155 => ?_)
                                  refine J_goto (tgt := 129) dX7_findForm_158 (by decide) ?_
                                  refine J.mask [true, true, true, true, true, true, true] ?_
                                  exact ih129 _ y155 G154 hW he ha0 hb_rw hb_fm hO_a0 hK_a0 hA154 ha_RW (by (try simp only [he155.eq, true_and, and_true]) <;> omega) (fun j hj => by rw [he155.eq] at hj; by_cases h9 : (j : Int) = i6n129.toInt; (have e : j = i6n129.toInt.toNat := by omega); subst e; rw [hp154, hz151.eq]; rw [ho154 j (by omega)]; exact hcp j (by omega)) (by (try simp only [he155.eq, true_and, and_true]) <;> omega)
                            refine J.mask [true, true, true, true, true, true, true] ?_
                            exact L129 _ _ i5n61 F21n30 hW he ha0 hb_rw hb_fm hO_a0 hK_a0 hAF21n30 ha_RW (by omega) (fun j hj => (heq j hj).symm) (Nat.lt_succ_self _)
                      · refine Jz_iinc 1 dX7_findForm_90 rfl rfl (by decide) jEq.rf (by decide) (by omega) (by omega) (fun y90 he90 => ?_)
                        refine J_goto (tgt := 61) dX7_findForm_93 (by decide) ?_
                        refine J.mask [true, true, true, true, true, true, false] ?_
                        exact ih61  y90  (by (try simp only [he90.eq, true_and, and_true]) <;> omega) (fun j hj => by rw [he90.eq] at hj; by_cases h9 : (j : Int) = i5n61.toInt; (have e : j = i5n61.toInt.toNat := by omega); subst e; rw [hf86]; omega; exact heq j (by omega)) (by (try simp only [he90.eq, true_and, and_true]) <;> omega)
                refine J.mask [true, true, true, true, true, true, false] ?_
                exact L61 _  y58    (by (try simp only [he58.eq, true_and, and_true]) <;> omega) (fun j hj => by rw [he58.eq] at hj; omega) (Nat.lt_succ_self _)
        refine J.mask [true, true, true, false, false, false, false] ?_
        exact L30 _ _ y28 F21n2 hW he ha0 hb_rw hb_fm hO_a0 hK_a0 hAF21n2 ha_RW (by rw [he28.eq]; omega) (fun j hj => by rw [he28.eq]; exact hc j (by omega)) (Nat.lt_succ_self _)
      · refine J_aload_n dX7_findForm_10 rfl ?_
        refine J_get jf_X7_31 dX7_findForm_11 hO_a0 hF_fm ?_
        refine J_iload_n dX7_findForm_14 rfl ?_
        refine J_aload_n dX7_findForm_15 rfl ?_
        refine J_get jf_X7_19 dX7_findForm_16 hO_a0 hF_rw ?_
        refine J_iload_n dX7_findForm_19 rfl ?_
        refine Jz_iald (r := ((-2147483648), 2147483647)) jEq.rf dX7_findForm_20 ha_RW rfl hv_RW (by omega) (by omega) (fun y20 hf20 hl20 hh20 => ?_)
        dsimp only at hl20 hh20
        clear hl20 hh20
        refine Jz_iast (r := ((-2147483648), 2147483647)) jEq.rf jEq.rf hW id dX7_findForm_21 hAF21n2 rfl rfl (by omega) (by omega) (j_rng _).1 (j_rng _).2 (fun V21 G21 hW hx21 hA21 hp21 ho21 => ?_)
        obtain ⟨hN21, hv21⟩ := WT_rngI (r := ((-2147483648), 2147483647)) hW id rfl hA21
        clear hN21
        have he := he.trans (hx21.sub (jsub_of rfl))
        have ha0 := ha0.mono hx21.1
        have hb_rw := hb_rw.mono hx21.1
        have hb_fm := hb_fm.mono hx21.1
        have hO_a0 := hx21.2 _ _ hO_a0 (jnot_of rfl)
        have hK_a0 := hK_a0.mono hx21.1
        have ha_RW := hx21.2 _ _ ha_RW (jnot_of rfl)
        refine Jz_iinc 1 dX7_findForm_22 rfl rfl (by decide) jEq.rf (by decide) (by omega) (by omega) (fun y22 he22 => ?_)
        refine J_goto (tgt := 2) dX7_findForm_25 (by decide) ?_
        refine J.mask [true, true, true, false, false, false, false] ?_
        exact ih2 _ y22 G21 hW he ha0 hb_rw hb_fm hO_a0 hK_a0 hA21 ha_RW (by (try simp only [he22.eq, true_and, and_true]) <;> omega) (fun j hj => by rw [he22.eq] at hj; by_cases h9 : (j : Int) = i2n2.toInt; (have e : j = i2n2.toInt.toNat := by omega); subst e; rw [hp21, hf20]; rw [ho21 j (by omega)]; exact hc j (by omega)) (by (try simp only [he22.eq, true_and, and_true]) <;> omega)
  refine J.mask [true, true, true, false, false, false, false] ?_
  exact L2 _ _ y0 FM hW he ha0 hb_rw hb_fm hO_a0 hK_a0 ha_FM ha_RW (by (try simp only [he0.eq, true_and, and_true]) <;> omega) (fun j hj => by rw [he0.eq] at hj; omega) (Nat.lt_succ_self _)
set_option maxRecDepth 100000 in
set_option maxHeartbeats 8000000 in
theorem w_X7_alike_bad {tS : jTS} (d : Nat) (V0 : jH) (a0 : Nat) (x1 : Int32) (x2 : Int32) (v0 : Int32) (gr : Nat) (mn : Nat) (sp : Nat) (rw : Nat) (px : Nat) (py : Nat) (pz : Nat) (GA : Nat → Int32) (MN : Nat → Int32) (SP : Nat → Int32) (RW : Nat → Int32) (PX : Nat → Int32) (PY : Nat → Int32) (PZ : Nat → Int32) (hd : 4 ≤ d) (hW : WT V0) (ha0 : jis V0 (.inr 5) a0) (hf_v0 : jfI V0 a0 5 0 v0) (hr_gr : jfR V0 a0 5 1 gr) (hr_mn : jfR V0 a0 5 2 mn) (hr_sp : jfR V0 a0 5 3 sp) (hr_rw : jfR V0 a0 5 4 rw) (hr_px : jfR V0 a0 5 6 px) (hr_py : jfR V0 a0 5 7 py) (hr_pz : jfR V0 a0 5 8 pz) (ha_GA : V0 gr = some (.inl (14, 16, .inl GA))) (ha_MN : V0 mn = some (.inl (15, 16, .inl MN))) (ha_SP : V0 sp = some (.inl (16, 960, .inl SP))) (ha_RW : V0 rw = some (.inl (17, 120, .inl RW))) (ha_PX : V0 px = some (.inl (18, 121, .inl PX))) (ha_PY : V0 py = some (.inl (19, 121, .inl PY))) (ha_PZ : V0 pz = some (.inl (20, 121, .inl PZ))) (hp0 : ¬ (0 ≤ x1.toInt ∧ x1.toInt < v0.toInt ∧ 0 ≤ x2.toInt ∧ x2.toInt < v0.toInt)) : jTot tS mX7_alike d [.ref a0, .int x1, .int x2] V0 0 0 (fun r V => (fun r _ => ∃ y : Int32, r = some (.int y) ∧ ((-2147483648) ≤ y.toInt) ∧ (y.toInt ≤ 2147483647) ∧ (y.toInt = -2)) r V ∧ V = V0) := by
  refine jTot.of_J [some (.ref a0), some (.int x1), some (.int x2), none, none, none] moX7_alike (Nat.le_of_ble_eq_true rfl) rfl ?_
  have hrx1 := j_rng x1
  have hrx2 := j_rng x2
  have he : jeff [] V0 V0 := jeff.refl _ _
  obtain ⟨fs_a0, hO_a0, hK_a0⟩ := WT_obj hW id ha0
  have hF_v0 := hf_v0.get hO_a0
  have hrv0 : 0 ≤ v0.toInt ∧ v0.toInt ≤ 16 := jok_rngI hK_a0 rfl hF_v0
  have hF_gr := hr_gr.get hO_a0
  obtain ⟨w_gr, hFq_gr, b_gr, hbq_gr, hb_gr⟩ := hK_a0.2 1 (.inr (some (.inl 14))) rfl
  cases hF_gr.symm.trans (hFq_gr.trans (congrArg some hbq_gr))
  have hF_mn := hr_mn.get hO_a0
  obtain ⟨w_mn, hFq_mn, b_mn, hbq_mn, hb_mn⟩ := hK_a0.2 2 (.inr (some (.inl 15))) rfl
  cases hF_mn.symm.trans (hFq_mn.trans (congrArg some hbq_mn))
  have hF_sp := hr_sp.get hO_a0
  obtain ⟨w_sp, hFq_sp, b_sp, hbq_sp, hb_sp⟩ := hK_a0.2 3 (.inr (some (.inl 16))) rfl
  cases hF_sp.symm.trans (hFq_sp.trans (congrArg some hbq_sp))
  have hF_rw := hr_rw.get hO_a0
  obtain ⟨w_rw, hFq_rw, b_rw, hbq_rw, hb_rw⟩ := hK_a0.2 4 (.inr (some (.inl 17))) rfl
  cases hF_rw.symm.trans (hFq_rw.trans (congrArg some hbq_rw))
  have hF_px := hr_px.get hO_a0
  obtain ⟨w_px, hFq_px, b_px, hbq_px, hb_px⟩ := hK_a0.2 6 (.inr (some (.inl 18))) rfl
  cases hF_px.symm.trans (hFq_px.trans (congrArg some hbq_px))
  have hF_py := hr_py.get hO_a0
  obtain ⟨w_py, hFq_py, b_py, hbq_py, hb_py⟩ := hK_a0.2 7 (.inr (some (.inl 19))) rfl
  cases hF_py.symm.trans (hFq_py.trans (congrArg some hbq_py))
  have hF_pz := hr_pz.get hO_a0
  obtain ⟨w_pz, hFq_pz, b_pz, hbq_pz, hb_pz⟩ := hK_a0.2 8 (.inr (some (.inl 20))) rfl
  cases hF_pz.symm.trans (hFq_pz.trans (congrArg some hbq_pz))
  obtain ⟨hN_GA, hv_GA⟩ := WT_rngI (r := (0, 3)) hW id rfl ha_GA
  clear hN_GA
  obtain ⟨hN_MN, hv_MN⟩ := WT_rngI (r := (0, 60)) hW id rfl ha_MN
  clear hN_MN
  obtain ⟨hN_SP, hv_SP⟩ := WT_rngI (r := ((-2147483648), 2147483647)) hW id rfl ha_SP
  clear hN_SP
  obtain ⟨hN_RW, hv_RW⟩ := WT_rngI (r := ((-2147483648), 2147483647)) hW id rfl ha_RW
  clear hN_RW
  obtain ⟨hN_PX, hv_PX⟩ := WT_rngI (r := ((-2147483648), 2147483647)) hW id rfl ha_PX
  clear hN_PX
  obtain ⟨hN_PY, hv_PY⟩ := WT_rngI (r := ((-2147483648), 2147483647)) hW id rfl ha_PY
  clear hN_PY
  obtain ⟨hN_PZ, hv_PZ⟩ := WT_rngI (r := ((-2147483648), 2147483647)) hW id rfl ha_PZ
  clear hN_PZ
  refine J_aload_n dX7_alike_0 rfl ?_
  refine J_iload_n dX7_alike_1 rfl ?_
  refine Jw_callV1 (q9 := (RX7, TX7, 34)) moX7_isWalk jw_ml_X7_130 jw_im_X7_isWalk jw_se_X7_isWalk ha0 rfl rfl dX7_alike_2 (w_X7_isWalk_z (d - 1) _ a0 x1 v0 (by omega) hW  ha0 ⟨_, hO_a0, hF_v0⟩) (by omega) (Nat.zero_le _) (Nat.zero_le _) (Nat.le_of_ble_eq_true rfl) (fun r2 V2 h2 => ?_)
  obtain ⟨⟨y2, rfl, hl2, hh2, hP2_0⟩, hE2⟩ := h2
  have hE2 := hE2.symm
  subst hE2
  refine Jz_if_eq (tgt := 16) jEq.rf dX7_alike_5 (by decide) (fun c5 => ?_) (fun c5 => ?_)
  · refine Jz_bipush (-2) dX7_alike_16 (by decide) (fun y16 he16 => ?_)
    exact J_ret (r := some (.int _)) dX7_alike_18 ⟨rfl, _, rfl, rfl⟩ (⟨⟨_, rfl, (j_rng _).1, (j_rng _).2, (by (try simp only [he16.eq, true_and, and_true]) <;> omega)⟩, rfl⟩)
  · refine J_aload_n dX7_alike_8 rfl ?_
    refine J_iload_n dX7_alike_9 rfl ?_
    refine Jw_callV1 (q9 := (RX7, TX7, 34)) moX7_isWalk jw_ml_X7_130 jw_im_X7_isWalk jw_se_X7_isWalk ha0 rfl rfl dX7_alike_10 (w_X7_isWalk_z (d - 1) _ a0 x2 v0 (by omega) hW  ha0 ⟨_, hO_a0, hF_v0⟩) (by omega) (Nat.zero_le _) (Nat.zero_le _) (Nat.le_of_ble_eq_true rfl) (fun r10 V10 h10 => ?_)
    obtain ⟨⟨y10, rfl, hl10, hh10, hP10_0⟩, hE10⟩ := h10
    have hE10 := hE10.symm
    subst hE10
    refine Jz_if_ne (tgt := 19) jEq.rf dX7_alike_13 (by decide) (fun c13 => ?_) (fun c13 => ?_)
    · exact False.elim (by omega)
    · refine Jz_bipush (-2) dX7_alike_16 (by decide) (fun y16 he16 => ?_)
      exact J_ret (r := some (.int _)) dX7_alike_18 ⟨rfl, _, rfl, rfl⟩ (⟨⟨_, rfl, (j_rng _).1, (j_rng _).2, (by (try simp only [he16.eq, true_and, and_true]) <;> omega)⟩, rfl⟩)
set_option maxRecDepth 100000 in
set_option maxHeartbeats 8000000 in
theorem w_X7_alike_dif {tS : jTS} (d : Nat) (V0 : jH) (a0 : Nat) (x1 : Int32) (x2 : Int32) (v0 : Int32) (gr : Nat) (mn : Nat) (sp : Nat) (rw : Nat) (px : Nat) (py : Nat) (pz : Nat) (GA : Nat → Int32) (MN : Nat → Int32) (SP : Nat → Int32) (RW : Nat → Int32) (PX : Nat → Int32) (PY : Nat → Int32) (PZ : Nat → Int32) (hd : 4 ≤ d) (hW : WT V0) (ha0 : jis V0 (.inr 5) a0) (hf_v0 : jfI V0 a0 5 0 v0) (hr_gr : jfR V0 a0 5 1 gr) (hr_mn : jfR V0 a0 5 2 mn) (hr_sp : jfR V0 a0 5 3 sp) (hr_rw : jfR V0 a0 5 4 rw) (hr_px : jfR V0 a0 5 6 px) (hr_py : jfR V0 a0 5 7 py) (hr_pz : jfR V0 a0 5 8 pz) (ha_GA : V0 gr = some (.inl (14, 16, .inl GA))) (ha_MN : V0 mn = some (.inl (15, 16, .inl MN))) (ha_SP : V0 sp = some (.inl (16, 960, .inl SP))) (ha_RW : V0 rw = some (.inl (17, 120, .inl RW))) (ha_PX : V0 px = some (.inl (18, 121, .inl PX))) (ha_PY : V0 py = some (.inl (19, 121, .inl PY))) (ha_PZ : V0 pz = some (.inl (20, 121, .inl PZ))) (hp0 : 0 ≤ x1.toInt) (hp1 : x1.toInt < v0.toInt) (hp2 : 0 ≤ x2.toInt) (hp3 : x2.toInt < v0.toInt) (hp4 : ¬ (GA x1.toInt.toNat).toInt = (GA x2.toInt.toNat).toInt) : jTot tS mX7_alike d [.ref a0, .int x1, .int x2] V0 0 0 (fun r V => (fun r _ => ∃ y : Int32, r = some (.int y) ∧ ((-2147483648) ≤ y.toInt) ∧ (y.toInt ≤ 2147483647) ∧ (y.toInt = -3)) r V ∧ V = V0) := by
  refine jTot.of_J [some (.ref a0), some (.int x1), some (.int x2), none, none, none] moX7_alike (Nat.le_of_ble_eq_true rfl) rfl ?_
  have hrx1 := j_rng x1
  have hrx2 := j_rng x2
  have he : jeff [] V0 V0 := jeff.refl _ _
  obtain ⟨fs_a0, hO_a0, hK_a0⟩ := WT_obj hW id ha0
  have hF_v0 := hf_v0.get hO_a0
  have hrv0 : 0 ≤ v0.toInt ∧ v0.toInt ≤ 16 := jok_rngI hK_a0 rfl hF_v0
  have hF_gr := hr_gr.get hO_a0
  obtain ⟨w_gr, hFq_gr, b_gr, hbq_gr, hb_gr⟩ := hK_a0.2 1 (.inr (some (.inl 14))) rfl
  cases hF_gr.symm.trans (hFq_gr.trans (congrArg some hbq_gr))
  have hF_mn := hr_mn.get hO_a0
  obtain ⟨w_mn, hFq_mn, b_mn, hbq_mn, hb_mn⟩ := hK_a0.2 2 (.inr (some (.inl 15))) rfl
  cases hF_mn.symm.trans (hFq_mn.trans (congrArg some hbq_mn))
  have hF_sp := hr_sp.get hO_a0
  obtain ⟨w_sp, hFq_sp, b_sp, hbq_sp, hb_sp⟩ := hK_a0.2 3 (.inr (some (.inl 16))) rfl
  cases hF_sp.symm.trans (hFq_sp.trans (congrArg some hbq_sp))
  have hF_rw := hr_rw.get hO_a0
  obtain ⟨w_rw, hFq_rw, b_rw, hbq_rw, hb_rw⟩ := hK_a0.2 4 (.inr (some (.inl 17))) rfl
  cases hF_rw.symm.trans (hFq_rw.trans (congrArg some hbq_rw))
  have hF_px := hr_px.get hO_a0
  obtain ⟨w_px, hFq_px, b_px, hbq_px, hb_px⟩ := hK_a0.2 6 (.inr (some (.inl 18))) rfl
  cases hF_px.symm.trans (hFq_px.trans (congrArg some hbq_px))
  have hF_py := hr_py.get hO_a0
  obtain ⟨w_py, hFq_py, b_py, hbq_py, hb_py⟩ := hK_a0.2 7 (.inr (some (.inl 19))) rfl
  cases hF_py.symm.trans (hFq_py.trans (congrArg some hbq_py))
  have hF_pz := hr_pz.get hO_a0
  obtain ⟨w_pz, hFq_pz, b_pz, hbq_pz, hb_pz⟩ := hK_a0.2 8 (.inr (some (.inl 20))) rfl
  cases hF_pz.symm.trans (hFq_pz.trans (congrArg some hbq_pz))
  obtain ⟨hN_GA, hv_GA⟩ := WT_rngI (r := (0, 3)) hW id rfl ha_GA
  clear hN_GA
  obtain ⟨hN_MN, hv_MN⟩ := WT_rngI (r := (0, 60)) hW id rfl ha_MN
  clear hN_MN
  obtain ⟨hN_SP, hv_SP⟩ := WT_rngI (r := ((-2147483648), 2147483647)) hW id rfl ha_SP
  clear hN_SP
  obtain ⟨hN_RW, hv_RW⟩ := WT_rngI (r := ((-2147483648), 2147483647)) hW id rfl ha_RW
  clear hN_RW
  obtain ⟨hN_PX, hv_PX⟩ := WT_rngI (r := ((-2147483648), 2147483647)) hW id rfl ha_PX
  clear hN_PX
  obtain ⟨hN_PY, hv_PY⟩ := WT_rngI (r := ((-2147483648), 2147483647)) hW id rfl ha_PY
  clear hN_PY
  obtain ⟨hN_PZ, hv_PZ⟩ := WT_rngI (r := ((-2147483648), 2147483647)) hW id rfl ha_PZ
  clear hN_PZ
  refine J_aload_n dX7_alike_0 rfl ?_
  refine J_iload_n dX7_alike_1 rfl ?_
  refine Jw_callV1 (q9 := (RX7, TX7, 34)) moX7_isWalk jw_ml_X7_130 jw_im_X7_isWalk jw_se_X7_isWalk ha0 rfl rfl dX7_alike_2 (w_X7_isWalk_z (d - 1) _ a0 x1 v0 (by omega) hW  ha0 ⟨_, hO_a0, hF_v0⟩) (by omega) (Nat.zero_le _) (Nat.zero_le _) (Nat.le_of_ble_eq_true rfl) (fun r2 V2 h2 => ?_)
  obtain ⟨⟨y2, rfl, hl2, hh2, hP2_0⟩, hE2⟩ := h2
  have hE2 := hE2.symm
  subst hE2
  refine Jz_if_eq (tgt := 16) jEq.rf dX7_alike_5 (by decide) (fun c5 => ?_) (fun c5 => ?_)
  · exact False.elim (by omega)
  · refine J_aload_n dX7_alike_8 rfl ?_
    refine J_iload_n dX7_alike_9 rfl ?_
    refine Jw_callV1 (q9 := (RX7, TX7, 34)) moX7_isWalk jw_ml_X7_130 jw_im_X7_isWalk jw_se_X7_isWalk ha0 rfl rfl dX7_alike_10 (w_X7_isWalk_z (d - 1) _ a0 x2 v0 (by omega) hW  ha0 ⟨_, hO_a0, hF_v0⟩) (by omega) (Nat.zero_le _) (Nat.zero_le _) (Nat.le_of_ble_eq_true rfl) (fun r10 V10 h10 => ?_)
    obtain ⟨⟨y10, rfl, hl10, hh10, hP10_0⟩, hE10⟩ := h10
    have hE10 := hE10.symm
    subst hE10
    refine Jz_if_ne (tgt := 19) jEq.rf dX7_alike_13 (by decide) (fun c13 => ?_) (fun c13 => ?_)
    · refine J_aload_n dX7_alike_19 rfl ?_
      refine J_get jf_X7_7 dX7_alike_20 hO_a0 hF_gr ?_
      refine J_iload_n dX7_alike_23 rfl ?_
      refine Jz_iald (r := (0, 3)) jEq.rf dX7_alike_24 ha_GA rfl hv_GA (by omega) (by omega) (fun y24 hf24 hl24 hh24 => ?_)
      dsimp only at hl24 hh24
      have hq24 : (GA x1.toInt.toNat).toInt = y24.toInt := by rw [hf24]
      refine J_aload_n dX7_alike_25 rfl ?_
      refine J_get jf_X7_7 dX7_alike_26 hO_a0 hF_gr ?_
      refine J_iload_n dX7_alike_29 rfl ?_
      refine Jz_iald (r := (0, 3)) jEq.rf dX7_alike_30 ha_GA rfl hv_GA (by omega) (by omega) (fun y30 hf30 hl30 hh30 => ?_)
      dsimp only at hl30 hh30
      have hq30 : (GA x2.toInt.toNat).toInt = y30.toInt := by rw [hf30]
      refine Jz_icmp_eq (tgt := 37) jEq.rf jEq.rf dX7_alike_31 (by decide) (fun c31 => ?_) (fun c31 => ?_)
      · exact False.elim (by omega)
      · refine Jz_bipush (-3) dX7_alike_34 (by decide) (fun y34 he34 => ?_)
        exact J_ret (r := some (.int _)) dX7_alike_36 ⟨rfl, _, rfl, rfl⟩ (⟨⟨_, rfl, (j_rng _).1, (j_rng _).2, (by (try simp only [he34.eq, true_and, and_true]) <;> omega)⟩, rfl⟩)
    · exact False.elim (by omega)
set_option maxRecDepth 100000 in
set_option maxHeartbeats 8000000 in
theorem w_X7_alike_ok {tS : jTS} (d : Nat) (V0 : jH) (a0 : Nat) (x1 : Int32) (x2 : Int32) (v0 : Int32) (gr : Nat) (mn : Nat) (sp : Nat) (rw : Nat) (fm : Nat) (oh : Nat) (GA : Nat → Int32) (MN : Nat → Int32) (SP : Nat → Int32) (RW : Nat → Int32) (FM : Nat → Int32) (OH : Nat → Int32) (hd : 4 ≤ d) (hW : WT V0) (ha0 : jis V0 (.inr 5) a0) (hf_v0 : jfI V0 a0 5 0 v0) (hr_gr : jfR V0 a0 5 1 gr) (hr_mn : jfR V0 a0 5 2 mn) (hr_sp : jfR V0 a0 5 3 sp) (hr_rw : jfR V0 a0 5 4 rw) (hr_fm : jfR V0 a0 5 9 fm) (hr_oh : jfR V0 a0 5 10 oh) (ha_GA : V0 gr = some (.inl (14, 16, .inl GA))) (ha_MN : V0 mn = some (.inl (15, 16, .inl MN))) (ha_SP : V0 sp = some (.inl (16, 960, .inl SP))) (ha_RW : V0 rw = some (.inl (17, 120, .inl RW))) (ha_FM : V0 fm = some (.inl (21, 60, .inl FM))) (ha_OH : V0 oh = some (.inl (22, 60, .inl OH))) (hp0 : 0 ≤ x1.toInt) (hp1 : x1.toInt < v0.toInt) (hp2 : 0 ≤ x2.toInt) (hp3 : x2.toInt < v0.toInt) (hp4 : (GA x1.toInt.toNat).toInt = (GA x2.toInt.toNat).toInt) (hp5 : ∀ j : Nat, (j : Int) < (MN x1.toInt.toNat).toInt → 0 ≤ (SP (60 * x1.toInt.toNat + j)).toInt ∧ (SP (60 * x1.toInt.toNat + j)).toInt < jdir (GA x1.toInt.toNat).toInt) (hp6 : ∀ j : Nat, (j : Int) < (MN x2.toInt.toNat).toInt → 0 ≤ (SP (60 * x2.toInt.toNat + j)).toInt ∧ (SP (60 * x2.toInt.toNat + j)).toInt < jdir (GA x2.toInt.toNat).toInt) : jTot tS mX7_alike d [.ref a0, .int x1, .int x2] V0 0 0 (fun r V => (jPost [.inr 5, .inl 17, .inl 21, .inl 22] V0 (fun r _ => ∃ y : Int32, r = some (.int y) ∧ ((-2147483648) ≤ y.toInt) ∧ (y.toInt ≤ 2147483647) ∧ ((y.toInt = 1 ∧ (MN x1.toInt.toNat).toInt = (MN x2.toInt.toNat).toInt ∧ ∀ j : Nat, j < (MN x1.toInt.toNat).toInt.toNat → jbs (GA x1.toInt.toNat).toInt (fun q => (SP (60 * x1.toInt.toNat + q)).toInt) (MN x1.toInt.toNat).toInt.toNat (2 * jtur (GA x1.toInt.toNat).toInt).toNat j = jbs (GA x1.toInt.toNat).toInt (fun q => (SP (60 * x2.toInt.toNat + q)).toInt) (MN x2.toInt.toNat).toInt.toNat (2 * jtur (GA x1.toInt.toNat).toInt).toNat j) ∨ (y.toInt = 0 ∧ ¬ ((MN x1.toInt.toNat).toInt = (MN x2.toInt.toNat).toInt ∧ ∀ j : Nat, j < (MN x1.toInt.toNat).toInt.toNat → jbs (GA x1.toInt.toNat).toInt (fun q => (SP (60 * x1.toInt.toNat + q)).toInt) (MN x1.toInt.toNat).toInt.toNat (2 * jtur (GA x1.toInt.toNat).toInt).toNat j = jbs (GA x1.toInt.toNat).toInt (fun q => (SP (60 * x2.toInt.toNat + q)).toInt) (MN x2.toInt.toNat).toInt.toNat (2 * jtur (GA x1.toInt.toNat).toInt).toNat j))))) r V ∧ jkc 5 [0, 23, 24] V0 V) := by
  refine jTot.of_J [some (.ref a0), some (.int x1), some (.int x2), none, none, none] moX7_alike (Nat.le_of_ble_eq_true rfl) rfl ?_
  have hrx1 := j_rng x1
  have hrx2 := j_rng x2
  have he : jeff [.inr 5, .inl 17, .inl 21, .inl 22] V0 V0 := jeff.refl _ _
  have hkp : jkc 5 [0, 23, 24] V0 V0 := jkc.rf
  obtain ⟨fs_a0, hO_a0, hK_a0⟩ := WT_obj hW id ha0
  have hF_v0 := hf_v0.get hO_a0
  have hrv0 : 0 ≤ v0.toInt ∧ v0.toInt ≤ 16 := jok_rngI hK_a0 rfl hF_v0
  have hF_gr := hr_gr.get hO_a0
  obtain ⟨w_gr, hFq_gr, b_gr, hbq_gr, hb_gr⟩ := hK_a0.2 1 (.inr (some (.inl 14))) rfl
  cases hF_gr.symm.trans (hFq_gr.trans (congrArg some hbq_gr))
  have hF_mn := hr_mn.get hO_a0
  obtain ⟨w_mn, hFq_mn, b_mn, hbq_mn, hb_mn⟩ := hK_a0.2 2 (.inr (some (.inl 15))) rfl
  cases hF_mn.symm.trans (hFq_mn.trans (congrArg some hbq_mn))
  have hF_sp := hr_sp.get hO_a0
  obtain ⟨w_sp, hFq_sp, b_sp, hbq_sp, hb_sp⟩ := hK_a0.2 3 (.inr (some (.inl 16))) rfl
  cases hF_sp.symm.trans (hFq_sp.trans (congrArg some hbq_sp))
  have hF_rw := hr_rw.get hO_a0
  obtain ⟨w_rw, hFq_rw, b_rw, hbq_rw, hb_rw⟩ := hK_a0.2 4 (.inr (some (.inl 17))) rfl
  cases hF_rw.symm.trans (hFq_rw.trans (congrArg some hbq_rw))
  have hF_fm := hr_fm.get hO_a0
  obtain ⟨w_fm, hFq_fm, b_fm, hbq_fm, hb_fm⟩ := hK_a0.2 9 (.inr (some (.inl 21))) rfl
  cases hF_fm.symm.trans (hFq_fm.trans (congrArg some hbq_fm))
  have hF_oh := hr_oh.get hO_a0
  obtain ⟨w_oh, hFq_oh, b_oh, hbq_oh, hb_oh⟩ := hK_a0.2 10 (.inr (some (.inl 22))) rfl
  cases hF_oh.symm.trans (hFq_oh.trans (congrArg some hbq_oh))
  obtain ⟨hN_GA, hv_GA⟩ := WT_rngI (r := (0, 3)) hW id rfl ha_GA
  clear hN_GA
  obtain ⟨hN_MN, hv_MN⟩ := WT_rngI (r := (0, 60)) hW id rfl ha_MN
  clear hN_MN
  obtain ⟨hN_SP, hv_SP⟩ := WT_rngI (r := ((-2147483648), 2147483647)) hW id rfl ha_SP
  clear hN_SP
  obtain ⟨hN_RW, hv_RW⟩ := WT_rngI (r := ((-2147483648), 2147483647)) hW id rfl ha_RW
  clear hN_RW
  obtain ⟨hN_FM, hv_FM⟩ := WT_rngI (r := ((-2147483648), 2147483647)) hW id rfl ha_FM
  clear hN_FM
  obtain ⟨hN_OH, hv_OH⟩ := WT_rngI (r := ((-2147483648), 2147483647)) hW id rfl ha_OH
  clear hN_OH
  refine J_aload_n dX7_alike_0 rfl ?_
  refine J_iload_n dX7_alike_1 rfl ?_
  refine Jw_callV1 (q9 := (RX7, TX7, 34)) moX7_isWalk jw_ml_X7_130 jw_im_X7_isWalk jw_se_X7_isWalk ha0 rfl rfl dX7_alike_2 (w_X7_isWalk_z (d - 1) _ a0 x1 v0 (by omega) hW  ha0 ⟨_, hO_a0, hF_v0⟩) (by omega) (Nat.zero_le _) (Nat.zero_le _) (Nat.le_of_ble_eq_true rfl) (fun r2 V2 h2 => ?_)
  obtain ⟨⟨y2, rfl, hl2, hh2, hP2_0⟩, hE2⟩ := h2
  have hE2 := hE2.symm
  subst hE2
  refine Jz_if_eq (tgt := 16) jEq.rf dX7_alike_5 (by decide) (fun c5 => ?_) (fun c5 => ?_)
  · exact False.elim (by omega)
  · refine J_aload_n dX7_alike_8 rfl ?_
    refine J_iload_n dX7_alike_9 rfl ?_
    refine Jw_callV1 (q9 := (RX7, TX7, 34)) moX7_isWalk jw_ml_X7_130 jw_im_X7_isWalk jw_se_X7_isWalk ha0 rfl rfl dX7_alike_10 (w_X7_isWalk_z (d - 1) _ a0 x2 v0 (by omega) hW  ha0 ⟨_, hO_a0, hF_v0⟩) (by omega) (Nat.zero_le _) (Nat.zero_le _) (Nat.le_of_ble_eq_true rfl) (fun r10 V10 h10 => ?_)
    obtain ⟨⟨y10, rfl, hl10, hh10, hP10_0⟩, hE10⟩ := h10
    have hE10 := hE10.symm
    subst hE10
    refine Jz_if_ne (tgt := 19) jEq.rf dX7_alike_13 (by decide) (fun c13 => ?_) (fun c13 => ?_)
    · refine J_aload_n dX7_alike_19 rfl ?_
      refine J_get jf_X7_7 dX7_alike_20 hO_a0 hF_gr ?_
      refine J_iload_n dX7_alike_23 rfl ?_
      refine Jz_iald (r := (0, 3)) jEq.rf dX7_alike_24 ha_GA rfl hv_GA (by omega) (by omega) (fun y24 hf24 hl24 hh24 => ?_)
      dsimp only at hl24 hh24
      have hq24 : (GA x1.toInt.toNat).toInt = y24.toInt := by rw [hf24]
      refine J_aload_n dX7_alike_25 rfl ?_
      refine J_get jf_X7_7 dX7_alike_26 hO_a0 hF_gr ?_
      refine J_iload_n dX7_alike_29 rfl ?_
      refine Jz_iald (r := (0, 3)) jEq.rf dX7_alike_30 ha_GA rfl hv_GA (by omega) (by omega) (fun y30 hf30 hl30 hh30 => ?_)
      dsimp only at hl30 hh30
      have hq30 : (GA x2.toInt.toNat).toInt = y30.toInt := by rw [hf30]
      refine Jz_icmp_eq (tgt := 37) jEq.rf jEq.rf dX7_alike_31 (by decide) (fun c31 => ?_) (fun c31 => ?_)
      · refine J_aload_n dX7_alike_37 rfl ?_
        refine J_iload_n dX7_alike_38 rfl ?_
        have hmr := hv_MN x1.toInt.toNat (by omega)
        dsimp only at hmr
        have hmr2 := hv_MN x2.toInt.toNat (by omega)
        dsimp only at hmr2
        refine Jw_callV1 (q9 := (RX7, TX7, 34)) moX7_brings jw_ml_X7_137 jw_im_X7_brings jw_se_X7_brings ha0 rfl rfl dX7_alike_39 (w_X7_brings_z (d - 1) _ a0 x2 mn sp rw MN SP RW (by omega) hW  ha0 ⟨_, hO_a0, hF_mn⟩ ⟨_, hO_a0, hF_sp⟩ ⟨_, hO_a0, hF_rw⟩ ha_MN ha_SP ha_RW (by omega) (by omega)) (by omega) (Nat.zero_le _) (Nat.zero_le _) (Nat.le_of_ble_eq_true rfl) (fun r39 V39 h39 => ?_)
        obtain ⟨h39, hX39_0, hX39_1, ⟨fv39_0, hfv39_0, hfp39_0⟩⟩ := h39
        obtain ⟨hW, hx39, hr39⟩ := h39
        have he := he.trans (hx39.sub (jsub_of rfl))
        have hkp := hkp.trans hX39_1
        have ha0 := ha0.mono hx39.1
        have hb_gr := hb_gr.mono hx39.1
        have hb_mn := hb_mn.mono hx39.1
        have hb_sp := hb_sp.mono hx39.1
        have hb_rw := hb_rw.mono hx39.1
        have hb_fm := hb_fm.mono hx39.1
        have hb_oh := hb_oh.mono hx39.1
        obtain ⟨fs39a0, hOfs39a0, hRfs39a0⟩ := hx39.1.keep hO_a0
        have hKfs39a0 : jokO _ (jFs 5) fs39a0 := hW _ _ id hOfs39a0
        have hFfs39a0_1 := hRfs39a0 _ _ hF_gr
        have hFfs39a0_2 := hRfs39a0 _ _ hF_mn
        have hFfs39a0_3 := hRfs39a0 _ _ hF_sp
        have hFfs39a0_4 := hRfs39a0 _ _ hF_rw
        have hFfs39a0_9 := hRfs39a0 _ _ hF_fm
        have hFfs39a0_10 := hRfs39a0 _ _ hF_oh
        have ha_GA := hx39.2 _ _ ha_GA (jnot_of rfl)
        have ha_MN := hx39.2 _ _ ha_MN (jnot_of rfl)
        have ha_SP := hx39.2 _ _ ha_SP (jnot_of rfl)
        have ha_FM := hx39.2 _ _ ha_FM (jnot_of rfl)
        have ha_OH := hx39.2 _ _ ha_OH (jnot_of rfl)
        cases hr39
        have hFv39_0 := hfv39_0.get hOfs39a0
        have hzf39_0 : jEq fv39_0.toInt ((MN (x2.toInt).toNat).toInt) := hfp39_0
        clear hfp39_0
        obtain ⟨R2, hR2, hRe2⟩ := hX39_0
        obtain ⟨hN_R2, hv_R2⟩ := WT_rngI (r := ((-2147483648), 2147483647)) hW id rfl hR2
        clear hN_R2
        refine J_aload_n dX7_alike_42 rfl ?_
        refine J_aload_n dX7_alike_43 rfl ?_
        refine J_get jf_X7_7 dX7_alike_44 hOfs39a0 hFfs39a0_1 ?_
        refine J_iload_n dX7_alike_47 rfl ?_
        refine Jz_iald (r := (0, 3)) jEq.rf dX7_alike_48 ha_GA rfl hv_GA (by omega) (by omega) (fun y48 hf48 hl48 hh48 => ?_)
        dsimp only at hl48 hh48
        clear hl48 hh48
        have he48 : jEq y48.toInt (y30.toInt) := by rw [← hf48, hf30]; exact jEq.rf
        refine Jw_callV1 (q9 := (RX7, TX7, 34)) moX7_findForm jw_ml_X7_174 jw_im_X7_findForm jw_se_X7_findForm ha0 rfl rfl dX7_alike_49 (w_X7_findForm_z (d - 1) _ a0 y48 fv39_0 rw fm R2 FM (by omega) hW  ha0 ⟨_, hOfs39a0, hFv39_0⟩ ⟨_, hOfs39a0, hFfs39a0_4⟩ ⟨_, hOfs39a0, hFfs39a0_9⟩ hR2 ha_FM (by have q := he48.eq; omega) (by have q := he48.eq; omega) (by rw [hzf39_0.eq]; omega) (fun j hj => by rw [hzf39_0.eq] at hj; rw [hRe2 j hj, show y48.toInt = (GA x2.toInt.toNat).toInt by (have q := he48.eq; omega)]; exact hp6 j hj)) (by omega) (Nat.zero_le _) (Nat.zero_le _) (Nat.le_of_ble_eq_true rfl) (fun r49 V49 h49 => ?_)
        obtain ⟨h49, hX49_0⟩ := h49
        obtain ⟨hW, hx49, hr49⟩ := h49
        have he := he.trans (hx49.sub (jsub_of rfl))
        have hkp := hkp.trans (jkc.of hx49 (jnot_of rfl))
        have ha0 := ha0.mono hx49.1
        have hb_gr := hb_gr.mono hx49.1
        have hb_mn := hb_mn.mono hx49.1
        have hb_sp := hb_sp.mono hx49.1
        have hb_rw := hb_rw.mono hx49.1
        have hb_fm := hb_fm.mono hx49.1
        have hb_oh := hb_oh.mono hx49.1
        have hOfs39a0 := hx49.2 _ _ hOfs39a0 (jnot_of rfl)
        have hKfs39a0 := hKfs39a0.mono hx49.1
        have ha_GA := hx49.2 _ _ ha_GA (jnot_of rfl)
        have ha_MN := hx49.2 _ _ ha_MN (jnot_of rfl)
        have ha_SP := hx49.2 _ _ ha_SP (jnot_of rfl)
        have ha_OH := hx49.2 _ _ ha_OH (jnot_of rfl)
        have hR2 := hx49.2 _ _ hR2 (jnot_of rfl)
        cases hr49
        obtain ⟨F2, hF2, hFe2⟩ := hX49_0
        rw [hzf39_0.eq, show y48.toInt = (GA x2.toInt.toNat).toInt by (have q := he48.eq; omega)] at hFe2
        have hG2 : ∀ j : Nat, j < (MN x2.toInt.toNat).toInt.toNat → (F2 j).toInt = jbs (GA x2.toInt.toNat).toInt (fun q => (SP (60 * x2.toInt.toNat + q)).toInt) (MN x2.toInt.toNat).toInt.toNat (2 * jtur (GA x2.toInt.toNat).toInt).toNat j := fun j hj => by rw [hFe2 j hj]; exact jbs_congr (fun q hq => by show (R2 q).toInt = _; rw [hRe2 q (by omega)]) _ j hj
        obtain ⟨hN_F2, hv_F2⟩ := WT_rngI (r := ((-2147483648), 2147483647)) hW id rfl hF2
        clear hN_F2
        refine J_aload_n dX7_alike_52 rfl ?_
        refine J_get jf_X7_109 dX7_alike_53 hOfs39a0 hFv39_0 ?_
        refine J_istore_n dX7_alike_56 rfl (by decide) ?_
        refine Jz_iconst 0 dX7_alike_57 (by decide) (fun y57 he57 => ?_)
        refine J_istore dX7_alike_58 rfl (by decide) ?_
        have L60 : ∀ (N : Nat) (V : jH) (i4n60 : Int32) (F22n60 : Nat → Int32), WT V → jeff [.inr 5, .inl 17, .inl 21, .inl 22] V0 V → (jis V (.inr 5) a0) → (jis V (.inl 14) gr) → (jis V (.inl 15) mn) → (jis V (.inl 16) sp) → (jis V (.inl 17) rw) → (jis V (.inl 21) fm) → (jis V (.inl 22) oh) → (jkc 5 [0, 23, 24] V0 V) → (V a0 = some (.inr (5, fs39a0))) → (jokO V (jFs 5) fs39a0) → (V oh = some (.inl (22, 60, .inl F22n60))) → (V gr = some (.inl (14, 16, .inl GA))) → (V mn = some (.inl (15, 16, .inl MN))) → (V sp = some (.inl (16, 960, .inl SP))) → (V fm = some (.inl (21, 60, .inl F2))) → (0 ≤ i4n60.toInt ∧ i4n60.toInt ≤ (MN x2.toInt.toNat).toInt) → (∀ j : Nat, (j : Int) < i4n60.toInt → F22n60 j = F2 j) → (300 - i4n60.toInt).toNat < N → J tS mX7_alike d 60 [some (.ref a0), some (.int x1), some (.int x2), some (.int fv39_0), some (.int i4n60), none] [] V 0 0 (fun r V => (jPost [.inr 5, .inl 17, .inl 21, .inl 22] V0 (fun r _ => ∃ y : Int32, r = some (.int y) ∧ ((-2147483648) ≤ y.toInt) ∧ (y.toInt ≤ 2147483647) ∧ ((y.toInt = 1 ∧ (MN x1.toInt.toNat).toInt = (MN x2.toInt.toNat).toInt ∧ ∀ j : Nat, j < (MN x1.toInt.toNat).toInt.toNat → jbs (GA x1.toInt.toNat).toInt (fun q => (SP (60 * x1.toInt.toNat + q)).toInt) (MN x1.toInt.toNat).toInt.toNat (2 * jtur (GA x1.toInt.toNat).toInt).toNat j = jbs (GA x1.toInt.toNat).toInt (fun q => (SP (60 * x2.toInt.toNat + q)).toInt) (MN x2.toInt.toNat).toInt.toNat (2 * jtur (GA x1.toInt.toNat).toInt).toNat j) ∨ (y.toInt = 0 ∧ ¬ ((MN x1.toInt.toNat).toInt = (MN x2.toInt.toNat).toInt ∧ ∀ j : Nat, j < (MN x1.toInt.toNat).toInt.toNat → jbs (GA x1.toInt.toNat).toInt (fun q => (SP (60 * x1.toInt.toNat + q)).toInt) (MN x1.toInt.toNat).toInt.toNat (2 * jtur (GA x1.toInt.toNat).toInt).toNat j = jbs (GA x1.toInt.toNat).toInt (fun q => (SP (60 * x2.toInt.toNat + q)).toInt) (MN x2.toInt.toNat).toInt.toNat (2 * jtur (GA x1.toInt.toNat).toInt).toNat j))))) r V ∧ jkc 5 [0, 23, 24] V0 V) := by
          intro N
          induction N with
          | zero => intro V i4n60 F22n60 hW he ha0 hb_gr hb_mn hb_sp hb_rw hb_fm hb_oh hkp hOfs39a0 hKfs39a0 hAF22n60 ha_GA ha_MN ha_SP hF2 hi4 hco hm; exact absurd hm (Nat.not_lt_zero _)
          | succ N ih =>
            intro V i4n60 F22n60 hW he ha0 hb_gr hb_mn hb_sp hb_rw hb_fm hb_oh hkp hOfs39a0 hKfs39a0 hAF22n60 ha_GA ha_MN ha_SP hF2 hi4 hco hm
            have ih60 := ih
            have hri4 := j_rng i4n60
            obtain ⟨hNF22n60, hvF22n60⟩ := WT_rngI (r := ((-2147483648), 2147483647)) hW id rfl hAF22n60
            clear hNF22n60
            refine J_iload dX7_alike_60 rfl ?_
            refine J_iload_n dX7_alike_62 rfl ?_
            refine Jz_icmp_ge (tgt := 86) jEq.rf hzf39_0 dX7_alike_63 (by decide) (fun c63 => ?_) (fun c63 => ?_)
            · refine J_aload_n dX7_alike_86 rfl ?_
              refine J_iload_n dX7_alike_87 rfl ?_
              obtain ⟨n88q17, f88q17, hA88q17, hN88q17, hM88q17, hv88q17⟩ := WT_arrI (r := (-2147483648, 2147483647)) hW id rfl hb_rw
              obtain rfl := hM88q17 120 rfl
              clear hN88q17 hM88q17
              refine Jw_callV1 (q9 := (RX7, TX7, 34)) moX7_brings jw_ml_X7_137 jw_im_X7_brings jw_se_X7_brings ha0 rfl rfl dX7_alike_88 (w_X7_brings_z (d - 1) _ a0 x1 mn sp rw MN SP f88q17 (by omega) hW  ha0 ⟨_, hOfs39a0, hFfs39a0_2⟩ ⟨_, hOfs39a0, hFfs39a0_3⟩ ⟨_, hOfs39a0, hFfs39a0_4⟩ ha_MN ha_SP hA88q17 (by omega) (by omega)) (by omega) (Nat.zero_le _) (Nat.zero_le _) (Nat.le_of_ble_eq_true rfl) (fun r88 V88 h88 => ?_)
              obtain ⟨h88, hX88_0, hX88_1, ⟨fv88_0, hfv88_0, hfp88_0⟩⟩ := h88
              obtain ⟨hW, hx88, hr88⟩ := h88
              have he := he.trans (hx88.sub (jsub_of rfl))
              have hkp := hkp.trans hX88_1
              have ha0 := ha0.mono hx88.1
              have hb_gr := hb_gr.mono hx88.1
              have hb_mn := hb_mn.mono hx88.1
              have hb_sp := hb_sp.mono hx88.1
              have hb_rw := hb_rw.mono hx88.1
              have hb_fm := hb_fm.mono hx88.1
              have hb_oh := hb_oh.mono hx88.1
              obtain ⟨fs88a0, hOfs88a0, hRfs88a0⟩ := hx88.1.keep hOfs39a0
              have hKfs88a0 : jokO _ (jFs 5) fs88a0 := hW _ _ id hOfs88a0
              have hFfs88a0_1 := hRfs88a0 _ _ hFfs39a0_1
              have hFfs88a0_2 := hRfs88a0 _ _ hFfs39a0_2
              have hFfs88a0_3 := hRfs88a0 _ _ hFfs39a0_3
              have hFfs88a0_4 := hRfs88a0 _ _ hFfs39a0_4
              have hFfs88a0_9 := hRfs88a0 _ _ hFfs39a0_9
              have hFfs88a0_10 := hRfs88a0 _ _ hFfs39a0_10
              have hAF22n60 := hx88.2 _ _ hAF22n60 (jnot_of rfl)
              have ha_GA := hx88.2 _ _ ha_GA (jnot_of rfl)
              have ha_MN := hx88.2 _ _ ha_MN (jnot_of rfl)
              have ha_SP := hx88.2 _ _ ha_SP (jnot_of rfl)
              have hF2 := hx88.2 _ _ hF2 (jnot_of rfl)
              cases hr88
              have hFv88_0 := hfv88_0.get hOfs88a0
              have hzf88_0 : jEq fv88_0.toInt ((MN (x1.toInt).toNat).toInt) := hfp88_0
              clear hfp88_0
              obtain ⟨R1, hR1, hRe1⟩ := hX88_0
              obtain ⟨hN_R1, hv_R1⟩ := WT_rngI (r := ((-2147483648), 2147483647)) hW id rfl hR1
              clear hN_R1
              refine J_aload_n dX7_alike_91 rfl ?_
              refine J_aload_n dX7_alike_92 rfl ?_
              refine J_get jf_X7_7 dX7_alike_93 hOfs88a0 hFfs88a0_1 ?_
              refine J_iload_n dX7_alike_96 rfl ?_
              refine Jz_iald (r := (0, 3)) jEq.rf dX7_alike_97 ha_GA rfl hv_GA (by omega) (by omega) (fun y97 hf97 hl97 hh97 => ?_)
              dsimp only at hl97 hh97
              clear hl97 hh97
              have he97 : jEq y97.toInt (y24.toInt) := by rw [← hf97, hf24]; exact jEq.rf
              refine Jw_callV1 (q9 := (RX7, TX7, 34)) moX7_findForm jw_ml_X7_174 jw_im_X7_findForm jw_se_X7_findForm ha0 rfl rfl dX7_alike_98 (w_X7_findForm_z (d - 1) _ a0 y97 fv88_0 rw fm R1 F2 (by omega) hW  ha0 ⟨_, hOfs88a0, hFv88_0⟩ ⟨_, hOfs88a0, hFfs88a0_4⟩ ⟨_, hOfs88a0, hFfs88a0_9⟩ hR1 hF2 (by have q := he97.eq; omega) (by have q := he97.eq; omega) (by rw [hzf88_0.eq]; omega) (fun j hj => by rw [hzf88_0.eq] at hj; rw [hRe1 j hj, show y97.toInt = (GA x1.toInt.toNat).toInt by (have q := he97.eq; omega)]; exact hp5 j hj)) (by omega) (Nat.zero_le _) (Nat.zero_le _) (Nat.le_of_ble_eq_true rfl) (fun r98 V98 h98 => ?_)
              obtain ⟨h98, hX98_0⟩ := h98
              obtain ⟨hW, hx98, hr98⟩ := h98
              have he := he.trans (hx98.sub (jsub_of rfl))
              have hkp := hkp.trans (jkc.of hx98 (jnot_of rfl))
              have ha0 := ha0.mono hx98.1
              have hb_gr := hb_gr.mono hx98.1
              have hb_mn := hb_mn.mono hx98.1
              have hb_sp := hb_sp.mono hx98.1
              have hb_rw := hb_rw.mono hx98.1
              have hb_fm := hb_fm.mono hx98.1
              have hb_oh := hb_oh.mono hx98.1
              have hOfs88a0 := hx98.2 _ _ hOfs88a0 (jnot_of rfl)
              have hKfs88a0 := hKfs88a0.mono hx98.1
              have hAF22n60 := hx98.2 _ _ hAF22n60 (jnot_of rfl)
              have ha_GA := hx98.2 _ _ ha_GA (jnot_of rfl)
              have ha_MN := hx98.2 _ _ ha_MN (jnot_of rfl)
              have ha_SP := hx98.2 _ _ ha_SP (jnot_of rfl)
              have hR1 := hx98.2 _ _ hR1 (jnot_of rfl)
              cases hr98
              obtain ⟨F1, hF1, hFe1⟩ := hX98_0
              rw [hzf88_0.eq, show y97.toInt = (GA x1.toInt.toNat).toInt by (have q := he97.eq; omega)] at hFe1
              have hG1 : ∀ j : Nat, j < (MN x1.toInt.toNat).toInt.toNat → (F1 j).toInt = jbs (GA x1.toInt.toNat).toInt (fun q => (SP (60 * x1.toInt.toNat + q)).toInt) (MN x1.toInt.toNat).toInt.toNat (2 * jtur (GA x1.toInt.toNat).toInt).toNat j := fun j hj => by rw [hFe1 j hj]; exact jbs_congr (fun q hq => by show (R1 q).toInt = _; rw [hRe1 q (by omega)]) _ j hj
              obtain ⟨hN_F1, hv_F1⟩ := WT_rngI (r := ((-2147483648), 2147483647)) hW id rfl hF1
              clear hN_F1
              refine J_iload_n dX7_alike_101 rfl ?_
              refine J_aload_n dX7_alike_102 rfl ?_
              refine J_get jf_X7_109 dX7_alike_103 hOfs88a0 hFv88_0 ?_
              refine Jz_icmp_ne (tgt := 113) hzf39_0 hzf88_0 dX7_alike_106 (by decide) (fun c106 => ?_) (fun c106 => ?_)
              · refine Jz_iconst 0 dX7_alike_113 (by decide) (fun y113 he113 => ?_)
                refine J_istore dX7_alike_114 rfl (by decide) ?_
                have hFO : ∀ j : Nat, j < (MN x2.toInt.toNat).toInt.toNat → (F22n60 j).toInt = jbs (GA x1.toInt.toNat).toInt (fun q => (SP (60 * x2.toInt.toNat + q)).toInt) (MN x2.toInt.toNat).toInt.toNat (2 * jtur (GA x1.toInt.toNat).toInt).toNat j := fun j hj => by rw [hco j (by omega), hG2 j hj, hp4]
                refine Jz_iconst 0 dX7_alike_116 (by decide) (fun y116 he116 => ?_)
                refine J_istore dX7_alike_117 rfl (by decide) ?_
                have L119 : ∀ (N : Nat) (i4n119 : Int32) (i5n119 : Int32), (0 ≤ i5n119.toInt ∧ i5n119.toInt ≤ (MN x2.toInt.toNat).toInt) → ((i4n119.toInt = 1 ∧ (MN x1.toInt.toNat).toInt = (MN x2.toInt.toNat).toInt ∧ ∀ j : Nat, (j : Int) < i5n119.toInt → (F1 j).toInt = (F22n60 j).toInt) ∨ (i4n119.toInt = 0 ∧ ¬ ((MN x1.toInt.toNat).toInt = (MN x2.toInt.toNat).toInt ∧ ∀ j : Nat, (j : Int) < (MN x2.toInt.toNat).toInt → (F1 j).toInt = (F22n60 j).toInt))) → (300 - i5n119.toInt).toNat < N → J tS mX7_alike d 119 [some (.ref a0), some (.int x1), some (.int x2), some (.int fv39_0), some (.int i4n119), some (.int i5n119)] [] V98 0 0 (fun r V => (jPost [.inr 5, .inl 17, .inl 21, .inl 22] V0 (fun r _ => ∃ y : Int32, r = some (.int y) ∧ ((-2147483648) ≤ y.toInt) ∧ (y.toInt ≤ 2147483647) ∧ ((y.toInt = 1 ∧ (MN x1.toInt.toNat).toInt = (MN x2.toInt.toNat).toInt ∧ ∀ j : Nat, j < (MN x1.toInt.toNat).toInt.toNat → jbs (GA x1.toInt.toNat).toInt (fun q => (SP (60 * x1.toInt.toNat + q)).toInt) (MN x1.toInt.toNat).toInt.toNat (2 * jtur (GA x1.toInt.toNat).toInt).toNat j = jbs (GA x1.toInt.toNat).toInt (fun q => (SP (60 * x2.toInt.toNat + q)).toInt) (MN x2.toInt.toNat).toInt.toNat (2 * jtur (GA x1.toInt.toNat).toInt).toNat j) ∨ (y.toInt = 0 ∧ ¬ ((MN x1.toInt.toNat).toInt = (MN x2.toInt.toNat).toInt ∧ ∀ j : Nat, j < (MN x1.toInt.toNat).toInt.toNat → jbs (GA x1.toInt.toNat).toInt (fun q => (SP (60 * x1.toInt.toNat + q)).toInt) (MN x1.toInt.toNat).toInt.toNat (2 * jtur (GA x1.toInt.toNat).toInt).toNat j = jbs (GA x1.toInt.toNat).toInt (fun q => (SP (60 * x2.toInt.toNat + q)).toInt) (MN x2.toInt.toNat).toInt.toNat (2 * jtur (GA x1.toInt.toNat).toInt).toNat j))))) r V ∧ jkc 5 [0, 23, 24] V0 V) := by
                  intro N
                  induction N with
                  | zero => intro i4n119 i5n119  hi5 hl hm; exact absurd hm (Nat.not_lt_zero _)
                  | succ N ih =>
                    intro i4n119 i5n119  hi5 hl hm
                    have ih119 := ih
                    have hri5 := j_rng i5n119
                    refine J_iload dX7_alike_119 rfl ?_
                    refine J_iload_n dX7_alike_121 rfl ?_
                    refine Jz_icmp_ge (tgt := 160) jEq.rf hzf39_0 dX7_alike_122 (by decide) (fun c122 => ?_) (fun c122 => ?_)
                    · have hev : ((MN x1.toInt.toNat).toInt = (MN x2.toInt.toNat).toInt ∧ ∀ j : Nat, (j : Int) < (MN x2.toInt.toNat).toInt → (F1 j).toInt = (F22n60 j).toInt) ↔ ((MN x1.toInt.toNat).toInt = (MN x2.toInt.toNat).toInt ∧ ∀ j : Nat, j < (MN x1.toInt.toNat).toInt.toNat → jbs (GA x1.toInt.toNat).toInt (fun q => (SP (60 * x1.toInt.toNat + q)).toInt) (MN x1.toInt.toNat).toInt.toNat (2 * jtur (GA x1.toInt.toNat).toInt).toNat j = jbs (GA x1.toInt.toNat).toInt (fun q => (SP (60 * x2.toInt.toNat + q)).toInt) (MN x2.toInt.toNat).toInt.toNat (2 * jtur (GA x1.toInt.toNat).toInt).toNat j) := ⟨fun z => ⟨z.1, fun j hj => by rw [← hG1 j hj, ← hFO j (by omega)]; exact z.2 j (by omega)⟩, fun z => ⟨z.1, fun j hj => by rw [hG1 j (by omega), hFO j (by omega)]; exact z.2 j (by omega)⟩⟩
                      refine J_iload dX7_alike_160 rfl ?_
                      refine Jz_if_eq (tgt := 169) jEq.rf dX7_alike_162 (by decide) (fun c162 => ?_) (fun c162 => ?_)
                      · refine Jz_iconst 0 dX7_alike_169 (by decide) (fun y169 he169 => ?_)
                        exact J_ret (r := some (.int _)) dX7_alike_170 ⟨rfl, _, rfl, rfl⟩ (⟨⟨hW, he, ⟨_, rfl, (j_rng _).1, (j_rng _).2, (by first | exact Or.inl ⟨he165.eq, hev.mp (hl.elim (fun z => ⟨z.2.1, fun j hj => z.2.2 j (by omega)⟩) (fun z => absurd z.1 c162))⟩ | exact Or.inr ⟨he169.eq, fun z => hl.elim (fun w => absurd w.1 (by omega)) (fun w => w.2 (hev.mpr z))⟩)⟩⟩, hkp⟩)
                      · refine Jz_iconst 1 dX7_alike_165 (by decide) (fun y165 he165 => ?_)
                        refine J_goto (tgt := 170) dX7_alike_166 (by decide) ?_
                        exact J_ret (r := some (.int _)) dX7_alike_170 ⟨rfl, _, rfl, rfl⟩ (⟨⟨hW, he, ⟨_, rfl, (j_rng _).1, (j_rng _).2, (by first | exact Or.inl ⟨he165.eq, hev.mp (hl.elim (fun z => ⟨z.2.1, fun j hj => z.2.2 j (by omega)⟩) (fun z => absurd z.1 c162))⟩ | exact Or.inr ⟨he169.eq, fun z => hl.elim (fun w => absurd w.1 (by omega)) (fun w => w.2 (hev.mpr z))⟩)⟩⟩, hkp⟩)
                    · refine J_iload dX7_alike_125 rfl ?_
                      refine Jz_if_eq (tgt := 160) jEq.rf dX7_alike_127 (by decide) (fun c127 => ?_) (fun c127 => ?_)
                      · have hev : ((MN x1.toInt.toNat).toInt = (MN x2.toInt.toNat).toInt ∧ ∀ j : Nat, (j : Int) < (MN x2.toInt.toNat).toInt → (F1 j).toInt = (F22n60 j).toInt) ↔ ((MN x1.toInt.toNat).toInt = (MN x2.toInt.toNat).toInt ∧ ∀ j : Nat, j < (MN x1.toInt.toNat).toInt.toNat → jbs (GA x1.toInt.toNat).toInt (fun q => (SP (60 * x1.toInt.toNat + q)).toInt) (MN x1.toInt.toNat).toInt.toNat (2 * jtur (GA x1.toInt.toNat).toInt).toNat j = jbs (GA x1.toInt.toNat).toInt (fun q => (SP (60 * x2.toInt.toNat + q)).toInt) (MN x2.toInt.toNat).toInt.toNat (2 * jtur (GA x1.toInt.toNat).toInt).toNat j) := ⟨fun z => ⟨z.1, fun j hj => by rw [← hG1 j hj, ← hFO j (by omega)]; exact z.2 j (by omega)⟩, fun z => ⟨z.1, fun j hj => by rw [hG1 j (by omega), hFO j (by omega)]; exact z.2 j (by omega)⟩⟩
                        refine J_iload dX7_alike_160 rfl ?_
                        refine Jz_if_eq (tgt := 169) jEq.rf dX7_alike_162 (by decide) (fun c162 => ?_) (fun c162 => ?_)
                        · refine Jz_iconst 0 dX7_alike_169 (by decide) (fun y169 he169 => ?_)
                          exact J_ret (r := some (.int _)) dX7_alike_170 ⟨rfl, _, rfl, rfl⟩ (⟨⟨hW, he, ⟨_, rfl, (j_rng _).1, (j_rng _).2, (by first | exact Or.inl ⟨he165.eq, hev.mp (hl.elim (fun z => ⟨z.2.1, fun j hj => z.2.2 j (by omega)⟩) (fun z => absurd z.1 c162))⟩ | exact Or.inr ⟨he169.eq, fun z => hl.elim (fun w => absurd w.1 (by omega)) (fun w => w.2 (hev.mpr z))⟩)⟩⟩, hkp⟩)
                        · refine Jz_iconst 1 dX7_alike_165 (by decide) (fun y165 he165 => ?_)
                          refine J_goto (tgt := 170) dX7_alike_166 (by decide) ?_
                          exact J_ret (r := some (.int _)) dX7_alike_170 ⟨rfl, _, rfl, rfl⟩ (⟨⟨hW, he, ⟨_, rfl, (j_rng _).1, (j_rng _).2, (by first | exact Or.inl ⟨he165.eq, hev.mp (hl.elim (fun z => ⟨z.2.1, fun j hj => z.2.2 j (by omega)⟩) (fun z => absurd z.1 c162))⟩ | exact Or.inr ⟨he169.eq, fun z => hl.elim (fun w => absurd w.1 (by omega)) (fun w => w.2 (hev.mpr z))⟩)⟩⟩, hkp⟩)
                      · refine J_aload_n dX7_alike_130 rfl ?_
                        refine J_get jf_X7_31 dX7_alike_131 hOfs88a0 hFfs88a0_9 ?_
                        refine J_iload dX7_alike_134 rfl ?_
                        refine Jz_iald (r := ((-2147483648), 2147483647)) jEq.rf dX7_alike_136 hF1 rfl hv_F1 (by omega) (by omega) (fun y136 hf136 hl136 hh136 => ?_)
                        dsimp only at hl136 hh136
                        clear hl136 hh136
                        refine J_aload_n dX7_alike_137 rfl ?_
                        refine J_get jf_X7_34 dX7_alike_138 hOfs88a0 hFfs88a0_10 ?_
                        refine J_iload dX7_alike_141 rfl ?_
                        refine Jz_iald (r := ((-2147483648), 2147483647)) jEq.rf dX7_alike_143 hAF22n60 rfl hvF22n60 (by omega) (by omega) (fun y143 hf143 hl143 hh143 => ?_)
                        dsimp only at hl143 hh143
                        clear hl143 hh143
                        refine Jz_icmp_ne (tgt := 151) jEq.rf jEq.rf dX7_alike_144 (by decide) (fun c144 => ?_) (fun c144 => ?_)
                        · have c144x := c144
                          refine Jz_iconst 0 dX7_alike_151 (by decide) (fun y151 he151 => ?_)
                          refine J_istore dX7_alike_152 rfl (by decide) ?_
                          refine Jz_iinc 1 dX7_alike_154 rfl rfl (by decide) jEq.rf (by decide) (by omega) (by omega) (fun y154 he154 => ?_)
                          refine J_goto (tgt := 119) dX7_alike_157 (by decide) ?_
                          refine J.mask [true, true, true, true, true, true] ?_
                          exact ih119  y151 y154  (by (try simp only [he151.eq, he154.eq, true_and, and_true]) <;> omega) (Or.inr ⟨by rw [he151.eq], fun z => c144x (by rw [← hf136, ← hf143]; exact z.2 i5n119.toInt.toNat (by omega))⟩) (by (try simp only [he151.eq, he154.eq, true_and, and_true]) <;> omega)
                        · refine Jz_iconst 1 dX7_alike_147 (by decide) (fun y147 he147 => ?_)
                          refine J_goto (tgt := 152) dX7_alike_148 (by decide) ?_
                          refine J_istore dX7_alike_152 rfl (by decide) ?_
                          refine Jz_iinc 1 dX7_alike_154 rfl rfl (by decide) jEq.rf (by decide) (by omega) (by omega) (fun y154 he154 => ?_)
                          refine J_goto (tgt := 119) dX7_alike_157 (by decide) ?_
                          refine J.mask [true, true, true, true, true, true] ?_
                          exact ih119  y147 y154  (by (try simp only [he147.eq, he154.eq, true_and, and_true]) <;> omega) (hl.elim (fun z => Or.inl ⟨by rw [he147.eq], z.2.1, fun j hj => by rw [he154.eq] at hj; by_cases h9 : (j : Int) = i5n119.toInt; (have e : j = i5n119.toInt.toNat := by omega); subst e; rw [hf136, hf143]; exact c144; exact z.2.2 j (by omega)⟩) (fun z => absurd z.1 c127)) (by (try simp only [he147.eq, he154.eq, true_and, and_true]) <;> omega)
                refine J.mask [true, true, true, true, true, true] ?_
                exact L119 _  y113 y116    (by (try simp only [he113.eq, he116.eq, true_and, and_true]) <;> omega) (by rw [he116.eq]; first | exact Or.inl ⟨he109.eq, by omega, fun j hj => absurd hj (by omega)⟩ | exact Or.inr ⟨he113.eq, fun z => absurd z.1 (by omega)⟩) (Nat.lt_succ_self _)
              · refine Jz_iconst 1 dX7_alike_109 (by decide) (fun y109 he109 => ?_)
                refine J_goto (tgt := 114) dX7_alike_110 (by decide) ?_
                refine J_istore dX7_alike_114 rfl (by decide) ?_
                have hFO : ∀ j : Nat, j < (MN x2.toInt.toNat).toInt.toNat → (F22n60 j).toInt = jbs (GA x1.toInt.toNat).toInt (fun q => (SP (60 * x2.toInt.toNat + q)).toInt) (MN x2.toInt.toNat).toInt.toNat (2 * jtur (GA x1.toInt.toNat).toInt).toNat j := fun j hj => by rw [hco j (by omega), hG2 j hj, hp4]
                refine Jz_iconst 0 dX7_alike_116 (by decide) (fun y116 he116 => ?_)
                refine J_istore dX7_alike_117 rfl (by decide) ?_
                have L119 : ∀ (N : Nat) (i4n119 : Int32) (i5n119 : Int32), (0 ≤ i5n119.toInt ∧ i5n119.toInt ≤ (MN x2.toInt.toNat).toInt) → ((i4n119.toInt = 1 ∧ (MN x1.toInt.toNat).toInt = (MN x2.toInt.toNat).toInt ∧ ∀ j : Nat, (j : Int) < i5n119.toInt → (F1 j).toInt = (F22n60 j).toInt) ∨ (i4n119.toInt = 0 ∧ ¬ ((MN x1.toInt.toNat).toInt = (MN x2.toInt.toNat).toInt ∧ ∀ j : Nat, (j : Int) < (MN x2.toInt.toNat).toInt → (F1 j).toInt = (F22n60 j).toInt))) → (300 - i5n119.toInt).toNat < N → J tS mX7_alike d 119 [some (.ref a0), some (.int x1), some (.int x2), some (.int fv39_0), some (.int i4n119), some (.int i5n119)] [] V98 0 0 (fun r V => (jPost [.inr 5, .inl 17, .inl 21, .inl 22] V0 (fun r _ => ∃ y : Int32, r = some (.int y) ∧ ((-2147483648) ≤ y.toInt) ∧ (y.toInt ≤ 2147483647) ∧ ((y.toInt = 1 ∧ (MN x1.toInt.toNat).toInt = (MN x2.toInt.toNat).toInt ∧ ∀ j : Nat, j < (MN x1.toInt.toNat).toInt.toNat → jbs (GA x1.toInt.toNat).toInt (fun q => (SP (60 * x1.toInt.toNat + q)).toInt) (MN x1.toInt.toNat).toInt.toNat (2 * jtur (GA x1.toInt.toNat).toInt).toNat j = jbs (GA x1.toInt.toNat).toInt (fun q => (SP (60 * x2.toInt.toNat + q)).toInt) (MN x2.toInt.toNat).toInt.toNat (2 * jtur (GA x1.toInt.toNat).toInt).toNat j) ∨ (y.toInt = 0 ∧ ¬ ((MN x1.toInt.toNat).toInt = (MN x2.toInt.toNat).toInt ∧ ∀ j : Nat, j < (MN x1.toInt.toNat).toInt.toNat → jbs (GA x1.toInt.toNat).toInt (fun q => (SP (60 * x1.toInt.toNat + q)).toInt) (MN x1.toInt.toNat).toInt.toNat (2 * jtur (GA x1.toInt.toNat).toInt).toNat j = jbs (GA x1.toInt.toNat).toInt (fun q => (SP (60 * x2.toInt.toNat + q)).toInt) (MN x2.toInt.toNat).toInt.toNat (2 * jtur (GA x1.toInt.toNat).toInt).toNat j))))) r V ∧ jkc 5 [0, 23, 24] V0 V) := by
                  intro N
                  induction N with
                  | zero => intro i4n119 i5n119  hi5 hl hm; exact absurd hm (Nat.not_lt_zero _)
                  | succ N ih =>
                    intro i4n119 i5n119  hi5 hl hm
                    have ih119 := ih
                    have hri5 := j_rng i5n119
                    refine J_iload dX7_alike_119 rfl ?_
                    refine J_iload_n dX7_alike_121 rfl ?_
                    refine Jz_icmp_ge (tgt := 160) jEq.rf hzf39_0 dX7_alike_122 (by decide) (fun c122 => ?_) (fun c122 => ?_)
                    · have hev : ((MN x1.toInt.toNat).toInt = (MN x2.toInt.toNat).toInt ∧ ∀ j : Nat, (j : Int) < (MN x2.toInt.toNat).toInt → (F1 j).toInt = (F22n60 j).toInt) ↔ ((MN x1.toInt.toNat).toInt = (MN x2.toInt.toNat).toInt ∧ ∀ j : Nat, j < (MN x1.toInt.toNat).toInt.toNat → jbs (GA x1.toInt.toNat).toInt (fun q => (SP (60 * x1.toInt.toNat + q)).toInt) (MN x1.toInt.toNat).toInt.toNat (2 * jtur (GA x1.toInt.toNat).toInt).toNat j = jbs (GA x1.toInt.toNat).toInt (fun q => (SP (60 * x2.toInt.toNat + q)).toInt) (MN x2.toInt.toNat).toInt.toNat (2 * jtur (GA x1.toInt.toNat).toInt).toNat j) := ⟨fun z => ⟨z.1, fun j hj => by rw [← hG1 j hj, ← hFO j (by omega)]; exact z.2 j (by omega)⟩, fun z => ⟨z.1, fun j hj => by rw [hG1 j (by omega), hFO j (by omega)]; exact z.2 j (by omega)⟩⟩
                      refine J_iload dX7_alike_160 rfl ?_
                      refine Jz_if_eq (tgt := 169) jEq.rf dX7_alike_162 (by decide) (fun c162 => ?_) (fun c162 => ?_)
                      · refine Jz_iconst 0 dX7_alike_169 (by decide) (fun y169 he169 => ?_)
                        exact J_ret (r := some (.int _)) dX7_alike_170 ⟨rfl, _, rfl, rfl⟩ (⟨⟨hW, he, ⟨_, rfl, (j_rng _).1, (j_rng _).2, (by first | exact Or.inl ⟨he165.eq, hev.mp (hl.elim (fun z => ⟨z.2.1, fun j hj => z.2.2 j (by omega)⟩) (fun z => absurd z.1 c162))⟩ | exact Or.inr ⟨he169.eq, fun z => hl.elim (fun w => absurd w.1 (by omega)) (fun w => w.2 (hev.mpr z))⟩)⟩⟩, hkp⟩)
                      · refine Jz_iconst 1 dX7_alike_165 (by decide) (fun y165 he165 => ?_)
                        refine J_goto (tgt := 170) dX7_alike_166 (by decide) ?_
                        exact J_ret (r := some (.int _)) dX7_alike_170 ⟨rfl, _, rfl, rfl⟩ (⟨⟨hW, he, ⟨_, rfl, (j_rng _).1, (j_rng _).2, (by first | exact Or.inl ⟨he165.eq, hev.mp (hl.elim (fun z => ⟨z.2.1, fun j hj => z.2.2 j (by omega)⟩) (fun z => absurd z.1 c162))⟩ | exact Or.inr ⟨he169.eq, fun z => hl.elim (fun w => absurd w.1 (by omega)) (fun w => w.2 (hev.mpr z))⟩)⟩⟩, hkp⟩)
                    · refine J_iload dX7_alike_125 rfl ?_
                      refine Jz_if_eq (tgt := 160) jEq.rf dX7_alike_127 (by decide) (fun c127 => ?_) (fun c127 => ?_)
                      · have hev : ((MN x1.toInt.toNat).toInt = (MN x2.toInt.toNat).toInt ∧ ∀ j : Nat, (j : Int) < (MN x2.toInt.toNat).toInt → (F1 j).toInt = (F22n60 j).toInt) ↔ ((MN x1.toInt.toNat).toInt = (MN x2.toInt.toNat).toInt ∧ ∀ j : Nat, j < (MN x1.toInt.toNat).toInt.toNat → jbs (GA x1.toInt.toNat).toInt (fun q => (SP (60 * x1.toInt.toNat + q)).toInt) (MN x1.toInt.toNat).toInt.toNat (2 * jtur (GA x1.toInt.toNat).toInt).toNat j = jbs (GA x1.toInt.toNat).toInt (fun q => (SP (60 * x2.toInt.toNat + q)).toInt) (MN x2.toInt.toNat).toInt.toNat (2 * jtur (GA x1.toInt.toNat).toInt).toNat j) := ⟨fun z => ⟨z.1, fun j hj => by rw [← hG1 j hj, ← hFO j (by omega)]; exact z.2 j (by omega)⟩, fun z => ⟨z.1, fun j hj => by rw [hG1 j (by omega), hFO j (by omega)]; exact z.2 j (by omega)⟩⟩
                        refine J_iload dX7_alike_160 rfl ?_
                        refine Jz_if_eq (tgt := 169) jEq.rf dX7_alike_162 (by decide) (fun c162 => ?_) (fun c162 => ?_)
                        · refine Jz_iconst 0 dX7_alike_169 (by decide) (fun y169 he169 => ?_)
                          exact J_ret (r := some (.int _)) dX7_alike_170 ⟨rfl, _, rfl, rfl⟩ (⟨⟨hW, he, ⟨_, rfl, (j_rng _).1, (j_rng _).2, (by first | exact Or.inl ⟨he165.eq, hev.mp (hl.elim (fun z => ⟨z.2.1, fun j hj => z.2.2 j (by omega)⟩) (fun z => absurd z.1 c162))⟩ | exact Or.inr ⟨he169.eq, fun z => hl.elim (fun w => absurd w.1 (by omega)) (fun w => w.2 (hev.mpr z))⟩)⟩⟩, hkp⟩)
                        · refine Jz_iconst 1 dX7_alike_165 (by decide) (fun y165 he165 => ?_)
                          refine J_goto (tgt := 170) dX7_alike_166 (by decide) ?_
                          exact J_ret (r := some (.int _)) dX7_alike_170 ⟨rfl, _, rfl, rfl⟩ (⟨⟨hW, he, ⟨_, rfl, (j_rng _).1, (j_rng _).2, (by first | exact Or.inl ⟨he165.eq, hev.mp (hl.elim (fun z => ⟨z.2.1, fun j hj => z.2.2 j (by omega)⟩) (fun z => absurd z.1 c162))⟩ | exact Or.inr ⟨he169.eq, fun z => hl.elim (fun w => absurd w.1 (by omega)) (fun w => w.2 (hev.mpr z))⟩)⟩⟩, hkp⟩)
                      · refine J_aload_n dX7_alike_130 rfl ?_
                        refine J_get jf_X7_31 dX7_alike_131 hOfs88a0 hFfs88a0_9 ?_
                        refine J_iload dX7_alike_134 rfl ?_
                        refine Jz_iald (r := ((-2147483648), 2147483647)) jEq.rf dX7_alike_136 hF1 rfl hv_F1 (by omega) (by omega) (fun y136 hf136 hl136 hh136 => ?_)
                        dsimp only at hl136 hh136
                        clear hl136 hh136
                        refine J_aload_n dX7_alike_137 rfl ?_
                        refine J_get jf_X7_34 dX7_alike_138 hOfs88a0 hFfs88a0_10 ?_
                        refine J_iload dX7_alike_141 rfl ?_
                        refine Jz_iald (r := ((-2147483648), 2147483647)) jEq.rf dX7_alike_143 hAF22n60 rfl hvF22n60 (by omega) (by omega) (fun y143 hf143 hl143 hh143 => ?_)
                        dsimp only at hl143 hh143
                        clear hl143 hh143
                        refine Jz_icmp_ne (tgt := 151) jEq.rf jEq.rf dX7_alike_144 (by decide) (fun c144 => ?_) (fun c144 => ?_)
                        · have c144x := c144
                          refine Jz_iconst 0 dX7_alike_151 (by decide) (fun y151 he151 => ?_)
                          refine J_istore dX7_alike_152 rfl (by decide) ?_
                          refine Jz_iinc 1 dX7_alike_154 rfl rfl (by decide) jEq.rf (by decide) (by omega) (by omega) (fun y154 he154 => ?_)
                          refine J_goto (tgt := 119) dX7_alike_157 (by decide) ?_
                          refine J.mask [true, true, true, true, true, true] ?_
                          exact ih119  y151 y154  (by (try simp only [he151.eq, he154.eq, true_and, and_true]) <;> omega) (Or.inr ⟨by rw [he151.eq], fun z => c144x (by rw [← hf136, ← hf143]; exact z.2 i5n119.toInt.toNat (by omega))⟩) (by (try simp only [he151.eq, he154.eq, true_and, and_true]) <;> omega)
                        · refine Jz_iconst 1 dX7_alike_147 (by decide) (fun y147 he147 => ?_)
                          refine J_goto (tgt := 152) dX7_alike_148 (by decide) ?_
                          refine J_istore dX7_alike_152 rfl (by decide) ?_
                          refine Jz_iinc 1 dX7_alike_154 rfl rfl (by decide) jEq.rf (by decide) (by omega) (by omega) (fun y154 he154 => ?_)
                          refine J_goto (tgt := 119) dX7_alike_157 (by decide) ?_
                          refine J.mask [true, true, true, true, true, true] ?_
                          exact ih119  y147 y154  (by (try simp only [he147.eq, he154.eq, true_and, and_true]) <;> omega) (hl.elim (fun z => Or.inl ⟨by rw [he147.eq], z.2.1, fun j hj => by rw [he154.eq] at hj; by_cases h9 : (j : Int) = i5n119.toInt; (have e : j = i5n119.toInt.toNat := by omega); subst e; rw [hf136, hf143]; exact c144; exact z.2.2 j (by omega)⟩) (fun z => absurd z.1 c127)) (by (try simp only [he147.eq, he154.eq, true_and, and_true]) <;> omega)
                refine J.mask [true, true, true, true, true, true] ?_
                exact L119 _  y109 y116    (by (try simp only [he109.eq, he116.eq, true_and, and_true]) <;> omega) (by rw [he116.eq]; first | exact Or.inl ⟨he109.eq, by omega, fun j hj => absurd hj (by omega)⟩ | exact Or.inr ⟨he113.eq, fun z => absurd z.1 (by omega)⟩) (Nat.lt_succ_self _)
            · refine J_aload_n dX7_alike_66 rfl ?_
              refine J_get jf_X7_34 dX7_alike_67 hOfs39a0 hFfs39a0_10 ?_
              refine J_iload dX7_alike_70 rfl ?_
              refine J_aload_n dX7_alike_72 rfl ?_
              refine J_get jf_X7_31 dX7_alike_73 hOfs39a0 hFfs39a0_9 ?_
              refine J_iload dX7_alike_76 rfl ?_
              refine Jz_iald (r := ((-2147483648), 2147483647)) jEq.rf dX7_alike_78 hF2 rfl hv_F2 (by omega) (by omega) (fun y78 hf78 hl78 hh78 => ?_)
              dsimp only at hl78 hh78
              clear hl78 hh78
              refine Jz_iast (r := ((-2147483648), 2147483647)) jEq.rf jEq.rf hW id dX7_alike_79 hAF22n60 rfl rfl (by omega) (by omega) (j_rng _).1 (j_rng _).2 (fun V79 G79 hW hx79 hA79 hp79 ho79 => ?_)
              obtain ⟨hN79, hv79⟩ := WT_rngI (r := ((-2147483648), 2147483647)) hW id rfl hA79
              clear hN79
              have he := he.trans (hx79.sub (jsub_of rfl))
              have hkp := hkp.trans (jkc.of hx79 (jnot_of rfl))
              have ha0 := ha0.mono hx79.1
              have hb_gr := hb_gr.mono hx79.1
              have hb_mn := hb_mn.mono hx79.1
              have hb_sp := hb_sp.mono hx79.1
              have hb_rw := hb_rw.mono hx79.1
              have hb_fm := hb_fm.mono hx79.1
              have hb_oh := hb_oh.mono hx79.1
              have hOfs39a0 := hx79.2 _ _ hOfs39a0 (jnot_of rfl)
              have hKfs39a0 := hKfs39a0.mono hx79.1
              have ha_GA := hx79.2 _ _ ha_GA (jnot_of rfl)
              have ha_MN := hx79.2 _ _ ha_MN (jnot_of rfl)
              have ha_SP := hx79.2 _ _ ha_SP (jnot_of rfl)
              have hF2 := hx79.2 _ _ hF2 (jnot_of rfl)
              refine Jz_iinc 1 dX7_alike_80 rfl rfl (by decide) jEq.rf (by decide) (by omega) (by omega) (fun y80 he80 => ?_)
              refine J_goto (tgt := 60) dX7_alike_83 (by decide) ?_
              refine J.mask [true, true, true, true, true, false] ?_
              exact ih60 _ y80 G79 hW he ha0 hb_gr hb_mn hb_sp hb_rw hb_fm hb_oh hkp hOfs39a0 hKfs39a0 hA79 ha_GA ha_MN ha_SP hF2 (by (try simp only [he80.eq, true_and, and_true]) <;> omega) (fun j hj => by rw [he80.eq] at hj; by_cases h9 : (j : Int) = i4n60.toInt; (have e : j = i4n60.toInt.toNat := by omega); subst e; rw [hp79, hf78]; rw [ho79 j (by omega)]; exact hco j (by omega)) (by (try simp only [he80.eq, true_and, and_true]) <;> omega)
        refine J.mask [true, true, true, true, true, false] ?_
        exact L60 _ _ y57 OH hW he ha0 hb_gr hb_mn hb_sp hb_rw hb_fm hb_oh hkp hOfs39a0 hKfs39a0 ha_OH ha_GA ha_MN ha_SP hF2 (by (try simp only [he57.eq, true_and, and_true]) <;> omega) (fun j hj => by rw [he57.eq] at hj; omega) (Nat.lt_succ_self _)
      · exact False.elim (by omega)
    · exact False.elim (by omega)
