set_option maxRecDepth 100000 in
set_option maxHeartbeats 8000000 in
theorem w_X7_leadingOn_z {tS : jTS} (d : Nat) (V0 : jH) (a0 : Nat) (x1 : Int32) (n : Int32) (px : Nat) (py : Nat) (pz : Nat) (PX : Nat → Int32) (PY : Nat → Int32) (PZ : Nat → Int32) (hd : 1 ≤ d) (hW : WT V0) (ha0 : jis V0 (.inr 5) a0) (hf_n : jfI V0 a0 5 5 n) (hr_px : jfR V0 a0 5 6 px) (hr_py : jfR V0 a0 5 7 py) (hr_pz : jfR V0 a0 5 8 pz) (ha_PX : V0 px = some (.inl (18, 121, .inl PX))) (ha_PY : V0 py = some (.inl (19, 121, .inl PY))) (ha_PZ : V0 pz = some (.inl (20, 121, .inl PZ))) (hp0 : 0 ≤ x1.toInt) (hp1 : x1.toInt ≤ 3) (hp2 : -128 ≤ (PX n.toInt.toNat).toInt) (hp3 : (PX n.toInt.toNat).toInt ≤ 128) (hp4 : -128 ≤ (PY n.toInt.toNat).toInt) (hp5 : (PY n.toInt.toNat).toInt ≤ 128) (hp6 : -128 ≤ (PZ n.toInt.toNat).toInt) (hp7 : (PZ n.toInt.toNat).toInt ≤ 128) : jTot tS mX7_leadingOn d [.ref a0, .int x1] V0 0 0 (fun r V => (fun r _ => ∃ y : Int32, r = some (.int y) ∧ ((-2147483648) ≤ y.toInt) ∧ (y.toInt ≤ 2147483647) ∧ (y.toInt = jct (fun d : Nat => jfree x1.toInt n.toInt.toNat PX PY PZ (d : Int)) (jdir x1.toInt).toNat)) r V ∧ V = V0) := by
  refine jTot.of_J [some (.ref a0), some (.int x1), none, none, none, none, none, none] moX7_leadingOn (Nat.le_of_ble_eq_true rfl) rfl ?_
  have hrx1 := j_rng x1
  have he : jeff [] V0 V0 := jeff.refl _ _
  obtain ⟨fs_a0, hO_a0, hK_a0⟩ := WT_obj hW id ha0
  have hF_n := hf_n.get hO_a0
  have hrn : 0 ≤ n.toInt ∧ n.toInt ≤ 120 := jok_rngI hK_a0 rfl hF_n
  have hF_px := hr_px.get hO_a0
  obtain ⟨w_px, hFq_px, b_px, hbq_px, hb_px⟩ := hK_a0.2 6 (.inr (some (.inl 18))) rfl
  cases hF_px.symm.trans (hFq_px.trans (congrArg some hbq_px))
  have hF_py := hr_py.get hO_a0
  obtain ⟨w_py, hFq_py, b_py, hbq_py, hb_py⟩ := hK_a0.2 7 (.inr (some (.inl 19))) rfl
  cases hF_py.symm.trans (hFq_py.trans (congrArg some hbq_py))
  have hF_pz := hr_pz.get hO_a0
  obtain ⟨w_pz, hFq_pz, b_pz, hbq_pz, hb_pz⟩ := hK_a0.2 8 (.inr (some (.inl 20))) rfl
  cases hF_pz.symm.trans (hFq_pz.trans (congrArg some hbq_pz))
  obtain ⟨hN_PX, hv_PX⟩ := WT_rngI (r := ((-2147483648), 2147483647)) hW id rfl ha_PX
  clear hN_PX
  obtain ⟨hN_PY, hv_PY⟩ := WT_rngI (r := ((-2147483648), 2147483647)) hW id rfl ha_PY
  clear hN_PY
  obtain ⟨hN_PZ, hv_PZ⟩ := WT_rngI (r := ((-2147483648), 2147483647)) hW id rfl ha_PZ
  clear hN_PZ
  have hjd := jdir_cases x1.toInt
  refine Jz_iconst 0 dX7_leadingOn_0 (by decide) (fun y0 he0 => ?_)
  refine J_istore_n dX7_leadingOn_1 rfl (by decide) ?_
  refine J_aload_n dX7_leadingOn_2 rfl ?_
  refine J_get jf_X7_22 dX7_leadingOn_3 hO_a0 hF_px ?_
  refine J_aload_n dX7_leadingOn_6 rfl ?_
  refine J_get jf_X7_109 dX7_leadingOn_7 hO_a0 hF_n ?_
  refine Jz_iald (r := ((-2147483648), 2147483647)) jEq.rf dX7_leadingOn_10 ha_PX rfl hv_PX (by omega) (by omega) (fun y10 hf10 hl10 hh10 => ?_)
  dsimp only at hl10 hh10
  clear hl10 hh10
  have e10 : (PX n.toInt.toNat).toInt = y10.toInt := by rw [hf10]
  refine J_istore_n dX7_leadingOn_11 rfl (by decide) ?_
  refine J_aload_n dX7_leadingOn_12 rfl ?_
  refine J_get jf_X7_25 dX7_leadingOn_13 hO_a0 hF_py ?_
  refine J_aload_n dX7_leadingOn_16 rfl ?_
  refine J_get jf_X7_109 dX7_leadingOn_17 hO_a0 hF_n ?_
  refine Jz_iald (r := ((-2147483648), 2147483647)) jEq.rf dX7_leadingOn_20 ha_PY rfl hv_PY (by omega) (by omega) (fun y20 hf20 hl20 hh20 => ?_)
  dsimp only at hl20 hh20
  clear hl20 hh20
  have e20 : (PY n.toInt.toNat).toInt = y20.toInt := by rw [hf20]
  refine J_istore dX7_leadingOn_21 rfl (by decide) ?_
  refine Jz_iconst 0 dX7_leadingOn_23 (by decide) (fun y23 he23 => ?_)
  refine J_istore dX7_leadingOn_24 rfl (by decide) ?_
  have L26 : ∀ (N : Nat) (i2n26 : Int32) (i5n26 : Int32), (0 ≤ i5n26.toInt ∧ i5n26.toInt ≤ jdir x1.toInt) → (i2n26.toInt = jct (fun d : Nat => jfree x1.toInt n.toInt.toNat PX PY PZ (d : Int)) i5n26.toInt.toNat) → (300 - i5n26.toInt).toNat < N → J tS mX7_leadingOn d 26 [some (.ref a0), some (.int x1), some (.int i2n26), some (.int y10), some (.int y20), some (.int i5n26), none, none] [] V0 0 0 (fun r V => (fun r _ => ∃ y : Int32, r = some (.int y) ∧ ((-2147483648) ≤ y.toInt) ∧ (y.toInt ≤ 2147483647) ∧ (y.toInt = jct (fun d : Nat => jfree x1.toInt n.toInt.toNat PX PY PZ (d : Int)) (jdir x1.toInt).toNat)) r V ∧ V = V0) := by
    intro N
    induction N with
    | zero => intro i2n26 i5n26  hi5 hc hm; exact absurd hm (Nat.not_lt_zero _)
    | succ N ih =>
      intro i2n26 i5n26  hi5 hc hm
      have ih26 := ih
      have hri5 := j_rng i5n26
      have hjb := jct_b (P := (fun d : Nat => jfree x1.toInt n.toInt.toNat PX PY PZ (d : Int))) i5n26.toInt.toNat
      refine J_iload dX7_leadingOn_26 rfl ?_
      refine J_iload_n dX7_leadingOn_28 rfl ?_
      refine J_callS1 moX7_directions jw_ml_X7_133 jw_st_X7_directions dX7_leadingOn_29 (w_X7_directions (d - 1) _ x1 (by omega)   ) (by omega) (Nat.zero_le _) (Nat.zero_le _) (Nat.le_of_ble_eq_true rfl) (fun r29 V29 h29 => ?_)
      obtain ⟨⟨y29, rfl, hl29, hh29, hP29_0⟩, hE29⟩ := h29
      have hE29 := hE29.symm
      subst hE29
      have hz29 : jEq y29.toInt (jdir (x1.toInt)) := hP29_0
      simp only [hP29_0] at hl29 hh29
      clear hP29_0
      refine Jz_icmp_ge (tgt := 154) jEq.rf hz29 dX7_leadingOn_32 (by decide) (fun c32 => ?_) (fun c32 => ?_)
      · refine J_iload_n dX7_leadingOn_154 rfl ?_
        exact J_ret (r := some (.int _)) dX7_leadingOn_155 ⟨rfl, _, rfl, rfl⟩ (⟨⟨_, rfl, (j_rng _).1, (j_rng _).2, (by rw [hc, show i5n26.toInt.toNat = (jdir x1.toInt).toNat by omega])⟩, rfl⟩)
      · refine Jz_iconst 1 dX7_leadingOn_35 (by decide) (fun y35 he35 => ?_)
        refine J_istore dX7_leadingOn_36 rfl (by decide) ?_
        refine Jz_iconst 0 dX7_leadingOn_38 (by decide) (fun y38 he38 => ?_)
        refine J_istore dX7_leadingOn_39 rfl (by decide) ?_
        have L41 : ∀ (N : Nat) (i6n41 : Int32) (i7n41 : Int32), (0 ≤ i7n41.toInt ∧ (i7n41.toInt ≤ n.toInt ∨ i7n41.toInt = 0)) → (jHd ((i6n41.toInt = 1 ∧ ∀ j : Nat, (j : Int) < i7n41.toInt → ¬ ((PX j).toInt = (PX n.toInt.toNat).toInt + jsx x1.toInt i5n26.toInt ∧ (PY j).toInt = (PY n.toInt.toNat).toInt + jsy x1.toInt i5n26.toInt ((PX n.toInt.toNat).toInt + (PY n.toInt.toNat).toInt) ∧ (PZ j).toInt = (PZ n.toInt.toNat).toInt + jsz x1.toInt i5n26.toInt)) ∨ (i6n41.toInt = 0 ∧ ∃ j : Nat, (j : Int) < n.toInt ∧ ((PX j).toInt = (PX n.toInt.toNat).toInt + jsx x1.toInt i5n26.toInt ∧ (PY j).toInt = (PY n.toInt.toNat).toInt + jsy x1.toInt i5n26.toInt ((PX n.toInt.toNat).toInt + (PY n.toInt.toNat).toInt) ∧ (PZ j).toInt = (PZ n.toInt.toNat).toInt + jsz x1.toInt i5n26.toInt)))) → (300 - i7n41.toInt).toNat < N → J tS mX7_leadingOn d 41 [some (.ref a0), some (.int x1), some (.int i2n26), some (.int y10), some (.int y20), some (.int i5n26), some (.int i6n41), some (.int i7n41)] [] V0 0 0 (fun r V => (fun r _ => ∃ y : Int32, r = some (.int y) ∧ ((-2147483648) ≤ y.toInt) ∧ (y.toInt ≤ 2147483647) ∧ (y.toInt = jct (fun d : Nat => jfree x1.toInt n.toInt.toNat PX PY PZ (d : Int)) (jdir x1.toInt).toNat)) r V ∧ V = V0) := by
          intro N
          induction N with
          | zero => intro i6n41 i7n41  hi7 hk hm; exact absurd hm (Nat.not_lt_zero _)
          | succ N ih =>
            intro i6n41 i7n41  hi7 hk hm
            have ih41 := ih
            have hri7 := j_rng i7n41
            refine J_iload dX7_leadingOn_41 rfl ?_
            refine J_aload_n dX7_leadingOn_43 rfl ?_
            refine J_get jf_X7_109 dX7_leadingOn_44 hO_a0 hF_n ?_
            refine Jz_icmp_ge (tgt := 135) jEq.rf jEq.rf dX7_leadingOn_47 (by decide) (fun c47 => ?_) (fun c47 => ?_)
            · refine J_iload_n dX7_leadingOn_135 rfl ?_
              refine J_iload dX7_leadingOn_136 rfl ?_
              refine Jz_if_eq (tgt := 145) jEq.rf dX7_leadingOn_138 (by decide) (fun c138 => ?_) (fun c138 => ?_)
              · refine Jz_iconst 0 dX7_leadingOn_145 (by decide) (fun y145 he145 => ?_)
                refine Jz_iadd jEq.rf he145 dX7_leadingOn_146 (by omega) (by omega) (fun y146 he146 => ?_)
                refine J_istore_n dX7_leadingOn_147 rfl (by decide) ?_
                refine Jz_iinc 1 dX7_leadingOn_148 rfl rfl (by decide) jEq.rf (by decide) (by omega) (by omega) (fun y148 he148 => ?_)
                refine J_goto (tgt := 26) dX7_leadingOn_151 (by decide) ?_
                refine J.mask [true, true, true, true, true, true, false, false] ?_
                exact ih26  y146 y148  (by (try simp only [he146.eq, he148.eq, true_and, and_true]) <;> omega) (hk.elim (fun z => absurd z.1 (by clear z; omega)) (fun z => by obtain ⟨j, h1, h2⟩ := z.2; clear z; rw [he146.eq, he148.eq, show (i5n26.toInt + 1).toNat = i5n26.toInt.toNat + 1 by omega, jct_no (fun q => q j (by omega) (by rw [Int.toNat_of_nonneg (a := i5n26.toInt) (by omega)]; exact h2))]; omega)) (by (try simp only [he146.eq, he148.eq, true_and, and_true]) <;> omega)
              · refine Jz_iconst 1 dX7_leadingOn_141 (by decide) (fun y141 he141 => ?_)
                refine J_goto (tgt := 146) dX7_leadingOn_142 (by decide) ?_
                refine Jz_iadd jEq.rf he141 dX7_leadingOn_146 (by omega) (by omega) (fun y146 he146 => ?_)
                refine J_istore_n dX7_leadingOn_147 rfl (by decide) ?_
                refine Jz_iinc 1 dX7_leadingOn_148 rfl rfl (by decide) jEq.rf (by decide) (by omega) (by omega) (fun y148 he148 => ?_)
                refine J_goto (tgt := 26) dX7_leadingOn_151 (by decide) ?_
                refine J.mask [true, true, true, true, true, true, false, false] ?_
                exact ih26  y146 y148  (by (try simp only [he146.eq, he148.eq, true_and, and_true]) <;> omega) (hk.elim (fun ⟨z1, z2⟩ => by rw [he146.eq, he148.eq, show (i5n26.toInt + 1).toNat = i5n26.toInt.toNat + 1 by omega, jct_yes (fun j hj q => by rw [Int.toNat_of_nonneg (a := i5n26.toInt) (by omega)] at q; by_cases h9 : j = n.toInt.toNat; (subst h9; exact jstep_nz (g := x1.toInt) (d := i5n26.toInt) (s := (PX n.toInt.toNat).toInt + (PY n.toInt.toNat).toInt) ⟨hp0, hp1⟩ (by omega) (by omega) ⟨by omega, by omega, by omega⟩); exact z2 j (by omega) q)]; omega) (fun z => absurd z.1 (by clear z; omega))) (by (try simp only [he146.eq, he148.eq, true_and, and_true]) <;> omega)
            · refine J_iload dX7_leadingOn_50 rfl ?_
              refine Jz_if_eq (tgt := 126) jEq.rf dX7_leadingOn_52 (by decide) (fun c52 => ?_) (fun c52 => ?_)
              · refine Jz_iconst 0 dX7_leadingOn_126 (by decide) (fun y126 he126 => ?_)
                refine J_istore dX7_leadingOn_127 rfl (by decide) ?_
                refine Jz_iinc 1 dX7_leadingOn_129 rfl rfl (by decide) jEq.rf (by decide) (by omega) (by omega) (fun y129 he129 => ?_)
                refine J_goto (tgt := 41) dX7_leadingOn_132 (by decide) ?_
                refine J.mask [true, true, true, true, true, true, true, true] ?_
                exact ih41  y126 y129  (by (try simp only [he126.eq, he129.eq, true_and, and_true]) <;> omega) (hk.elim (fun q => absurd q.1 (by omega)) (fun q => Or.inr ⟨he126.eq, q.2⟩)) (by (try simp only [he126.eq, he129.eq, true_and, and_true]) <;> omega)
              · refine J_aload_n dX7_leadingOn_55 rfl ?_
                refine J_get jf_X7_22 dX7_leadingOn_56 hO_a0 hF_px ?_
                refine J_iload dX7_leadingOn_59 rfl ?_
                refine Jz_iald (r := ((-2147483648), 2147483647)) jEq.rf dX7_leadingOn_61 ha_PX rfl hv_PX (by omega) (by omega) (fun y61 hf61 hl61 hh61 => ?_)
                dsimp only at hl61 hh61
                clear hl61 hh61
                refine J_iload_n dX7_leadingOn_62 rfl ?_
                refine J_iload_n dX7_leadingOn_63 rfl ?_
                refine J_iload dX7_leadingOn_64 rfl ?_
                refine J_callS2 moX7_stepX jw_ml_X7_112 jw_st_X7_stepX dX7_leadingOn_66 (w_X7_stepX_z (d - 1) _ x1 i5n26 (by omega)   (by omega) (by omega)) (by omega) (Nat.zero_le _) (Nat.zero_le _) (Nat.le_of_ble_eq_true rfl) (fun r66 V66 h66 => ?_)
                obtain ⟨⟨y66, rfl, hl66, hh66, hP66_0⟩, hE66⟩ := h66
                have hE66 := hE66.symm
                subst hE66
                have hz66 : jEq y66.toInt (jsx (x1.toInt) (i5n26.toInt)) := hP66_0
                simp only [hP66_0] at hl66 hh66
                clear hP66_0
                refine Jz_iadd jEq.rf hz66 dX7_leadingOn_69 (by omega) (by omega) (fun y69 he69 => ?_)
                refine Jz_icmp_ne (tgt := 122) jEq.rf he69 dX7_leadingOn_70 (by decide) (fun c70 => ?_) (fun c70 => ?_)
                · refine Jz_iconst 1 dX7_leadingOn_122 (by decide) (fun y122 he122 => ?_)
                  refine J_goto (tgt := 127) dX7_leadingOn_123 (by decide) ?_
                  refine J_istore dX7_leadingOn_127 rfl (by decide) ?_
                  refine Jz_iinc 1 dX7_leadingOn_129 rfl rfl (by decide) jEq.rf (by decide) (by omega) (by omega) (fun y129 he129 => ?_)
                  refine J_goto (tgt := 41) dX7_leadingOn_132 (by decide) ?_
                  refine J.mask [true, true, true, true, true, true, true, true] ?_
                  exact ih41  y122 y129  (by (try simp only [he122.eq, he129.eq, true_and, and_true]) <;> omega) (Or.inl ⟨he122.eq, fun j hj q => by rw [he129.eq] at hj; by_cases h9 : (j : Int) = i7n41.toInt; (have e : j = i7n41.toInt.toNat := by omega); subst e; (exact c70 (by rw [hf61, hf10] at q; exact q.1)); exact hk.elim (fun z => z.2 j (by omega) q) (fun z => absurd z.1 (by omega))⟩) (by (try simp only [he122.eq, he129.eq, true_and, and_true]) <;> omega)
                · refine J_aload_n dX7_leadingOn_73 rfl ?_
                  refine J_get jf_X7_25 dX7_leadingOn_74 hO_a0 hF_py ?_
                  refine J_iload dX7_leadingOn_77 rfl ?_
                  refine Jz_iald (r := ((-2147483648), 2147483647)) jEq.rf dX7_leadingOn_79 ha_PY rfl hv_PY (by omega) (by omega) (fun y79 hf79 hl79 hh79 => ?_)
                  dsimp only at hl79 hh79
                  clear hl79 hh79
                  refine J_iload dX7_leadingOn_80 rfl ?_
                  refine J_iload_n dX7_leadingOn_82 rfl ?_
                  refine J_iload dX7_leadingOn_83 rfl ?_
                  refine J_iload_n dX7_leadingOn_85 rfl ?_
                  refine J_iload dX7_leadingOn_86 rfl ?_
                  refine Jz_iadd jEq.rf jEq.rf dX7_leadingOn_88 (by omega) (by omega) (fun y88 he88 => ?_)
                  refine J_callS3 moX7_stepY jw_ml_X7_115 jw_st_X7_stepY dX7_leadingOn_89 (w_X7_stepY_z (d - 1) _ x1 i5n26 y88 (by omega)   (by omega) (by omega)) (by omega) (Nat.zero_le _) (Nat.zero_le _) (Nat.le_of_ble_eq_true rfl) (fun r89 V89 h89 => ?_)
                  obtain ⟨⟨y89, rfl, hl89, hh89, hP89_0⟩, hE89⟩ := h89
                  have hE89 := hE89.symm
                  subst hE89
                  try simp only [he88.eq] at hP89_0
                  have hz89 : jEq y89.toInt (jsy (x1.toInt) (i5n26.toInt) (y10.toInt + y20.toInt)) := hP89_0
                  simp only [hP89_0] at hl89 hh89
                  clear hP89_0
                  refine Jz_iadd jEq.rf hz89 dX7_leadingOn_92 (by omega) (by omega) (fun y92 he92 => ?_)
                  refine Jz_icmp_ne (tgt := 122) jEq.rf he92 dX7_leadingOn_93 (by decide) (fun c93 => ?_) (fun c93 => ?_)
                  · refine Jz_iconst 1 dX7_leadingOn_122 (by decide) (fun y122 he122 => ?_)
                    refine J_goto (tgt := 127) dX7_leadingOn_123 (by decide) ?_
                    refine J_istore dX7_leadingOn_127 rfl (by decide) ?_
                    refine Jz_iinc 1 dX7_leadingOn_129 rfl rfl (by decide) jEq.rf (by decide) (by omega) (by omega) (fun y129 he129 => ?_)
                    refine J_goto (tgt := 41) dX7_leadingOn_132 (by decide) ?_
                    refine J.mask [true, true, true, true, true, true, true, true] ?_
                    exact ih41  y122 y129  (by (try simp only [he122.eq, he129.eq, true_and, and_true]) <;> omega) (Or.inl ⟨he122.eq, fun j hj q => by rw [he129.eq] at hj; by_cases h9 : (j : Int) = i7n41.toInt; (have e : j = i7n41.toInt.toNat := by omega); subst e; (exact c93 (by rw [hf79, hf10, hf20] at q; exact q.2.1)); exact hk.elim (fun z => z.2 j (by omega) q) (fun z => absurd z.1 (by omega))⟩) (by (try simp only [he122.eq, he129.eq, true_and, and_true]) <;> omega)
                  · refine J_aload_n dX7_leadingOn_96 rfl ?_
                    refine J_get jf_X7_28 dX7_leadingOn_97 hO_a0 hF_pz ?_
                    refine J_iload dX7_leadingOn_100 rfl ?_
                    refine Jz_iald (r := ((-2147483648), 2147483647)) jEq.rf dX7_leadingOn_102 ha_PZ rfl hv_PZ (by omega) (by omega) (fun y102 hf102 hl102 hh102 => ?_)
                    dsimp only at hl102 hh102
                    clear hl102 hh102
                    refine J_aload_n dX7_leadingOn_103 rfl ?_
                    refine J_get jf_X7_28 dX7_leadingOn_104 hO_a0 hF_pz ?_
                    refine J_aload_n dX7_leadingOn_107 rfl ?_
                    refine J_get jf_X7_109 dX7_leadingOn_108 hO_a0 hF_n ?_
                    refine Jz_iald (r := ((-2147483648), 2147483647)) jEq.rf dX7_leadingOn_111 ha_PZ rfl hv_PZ (by omega) (by omega) (fun y111 hf111 hl111 hh111 => ?_)
                    dsimp only at hl111 hh111
                    clear hl111 hh111
                    have e111 : (PZ n.toInt.toNat).toInt = y111.toInt := by rw [hf111]
                    refine J_iload_n dX7_leadingOn_112 rfl ?_
                    refine J_iload dX7_leadingOn_113 rfl ?_
                    refine J_callS2 moX7_stepZ jw_ml_X7_119 jw_st_X7_stepZ dX7_leadingOn_115 (w_X7_stepZ_z (d - 1) _ x1 i5n26 (by omega)   (by omega) (by omega)) (by omega) (Nat.zero_le _) (Nat.zero_le _) (Nat.le_of_ble_eq_true rfl) (fun r115 V115 h115 => ?_)
                    obtain ⟨⟨y115, rfl, hl115, hh115, hP115_0⟩, hE115⟩ := h115
                    have hE115 := hE115.symm
                    subst hE115
                    have hz115 : jEq y115.toInt (jsz (x1.toInt) (i5n26.toInt)) := hP115_0
                    simp only [hP115_0] at hl115 hh115
                    clear hP115_0
                    refine Jz_iadd jEq.rf hz115 dX7_leadingOn_118 (by omega) (by omega) (fun y118 he118 => ?_)
                    refine Jz_icmp_eq (tgt := 126) jEq.rf he118 dX7_leadingOn_119 (by decide) (fun c119 => ?_) (fun c119 => ?_)
                    · refine Jz_iconst 0 dX7_leadingOn_126 (by decide) (fun y126 he126 => ?_)
                      refine J_istore dX7_leadingOn_127 rfl (by decide) ?_
                      refine Jz_iinc 1 dX7_leadingOn_129 rfl rfl (by decide) jEq.rf (by decide) (by omega) (by omega) (fun y129 he129 => ?_)
                      refine J_goto (tgt := 41) dX7_leadingOn_132 (by decide) ?_
                      refine J.mask [true, true, true, true, true, true, true, true] ?_
                      exact ih41  y126 y129  (by (try simp only [he126.eq, he129.eq, true_and, and_true]) <;> omega) (Or.inr ⟨he126.eq, i7n41.toInt.toNat, by omega, by rw [hf61, hf79, hf102, hf10, hf20, hf111]; exact ⟨c70, c93, c119⟩⟩) (by (try simp only [he126.eq, he129.eq, true_and, and_true]) <;> omega)
                    · refine Jz_iconst 1 dX7_leadingOn_122 (by decide) (fun y122 he122 => ?_)
                      refine J_goto (tgt := 127) dX7_leadingOn_123 (by decide) ?_
                      refine J_istore dX7_leadingOn_127 rfl (by decide) ?_
                      refine Jz_iinc 1 dX7_leadingOn_129 rfl rfl (by decide) jEq.rf (by decide) (by omega) (by omega) (fun y129 he129 => ?_)
                      refine J_goto (tgt := 41) dX7_leadingOn_132 (by decide) ?_
                      refine J.mask [true, true, true, true, true, true, true, true] ?_
                      exact ih41  y122 y129  (by (try simp only [he122.eq, he129.eq, true_and, and_true]) <;> omega) (Or.inl ⟨he122.eq, fun j hj q => by rw [he129.eq] at hj; by_cases h9 : (j : Int) = i7n41.toInt; (have e : j = i7n41.toInt.toNat := by omega); subst e; (exact c119 (by rw [hf102, hf111] at q; exact q.2.2)); exact hk.elim (fun z => z.2 j (by omega) q) (fun z => absurd z.1 (by omega))⟩) (by (try simp only [he122.eq, he129.eq, true_and, and_true]) <;> omega)
        refine J.mask [true, true, true, true, true, true, true, true] ?_
        exact L41 _  y35 y38    (by (try simp only [he35.eq, he38.eq, true_and, and_true]) <;> omega) (Or.inl ⟨he35.eq, fun j hj => by rw [he38.eq] at hj; omega⟩) (Nat.lt_succ_self _)
  refine J.mask [true, true, true, true, true, true, false, false] ?_
  exact L26 _  y0 y23    (by (try simp only [he0.eq, he23.eq, true_and, and_true]) <;> omega) (by rw [he0.eq, he23.eq]; rfl) (Nat.lt_succ_self _)
