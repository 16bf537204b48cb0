set_option maxRecDepth 100000 in
set_option maxHeartbeats 8000000 in
theorem w_X7_isRing_z {tS : jTS} (d : Nat) (V0 : jH) (a0 : Nat) (x1 : Int32) (n : Int32) (px : Nat) (py : Nat) (pz : Nat) (PX : Nat → Int32) (PY : Nat → Int32) (PZ : Nat → Int32) (hd : 1 ≤ d) (hW : WT V0) (ha0 : jis V0 (.inr 5) a0) (hf_n : jfI V0 a0 5 5 n) (hr_px : jfR V0 a0 5 6 px) (hr_py : jfR V0 a0 5 7 py) (hr_pz : jfR V0 a0 5 8 pz) (ha_PX : V0 px = some (.inl (18, 121, .inl PX))) (ha_PY : V0 py = some (.inl (19, 121, .inl PY))) (ha_PZ : V0 pz = some (.inl (20, 121, .inl PZ))) (hp0 : 0 ≤ x1.toInt) (hp1 : x1.toInt ≤ 3) (hp2 : -128 ≤ (PX n.toInt.toNat).toInt) (hp3 : (PX n.toInt.toNat).toInt ≤ 128) (hp4 : -128 ≤ (PY n.toInt.toNat).toInt) (hp5 : (PY n.toInt.toNat).toInt ≤ 128) (hp6 : -128 ≤ (PZ n.toInt.toNat).toInt) (hp7 : (PZ n.toInt.toNat).toInt ≤ 128) (hp8 : x1.toInt = 3 ∨ (PZ n.toInt.toNat).toInt = 0) : jTot tS mX7_isRing d [.ref a0, .int x1] V0 0 0 (fun r V => (fun r _ => ∃ y : Int32, r = some (.int y) ∧ (0 ≤ y.toInt) ∧ (y.toInt ≤ 1) ∧ ((y.toInt = 1 ∧ (2 ≤ n.toInt ∧ jsq x1.toInt (PX n.toInt.toNat).toInt (PY n.toInt.toNat).toInt (PZ n.toInt.toNat).toInt = 1 ∧ (¬ x1.toInt = 2 ∨ 0 ≤ (PY n.toInt.toNat).toInt))) ∨ (y.toInt = 0 ∧ ¬ (2 ≤ n.toInt ∧ jsq x1.toInt (PX n.toInt.toNat).toInt (PY n.toInt.toNat).toInt (PZ n.toInt.toNat).toInt = 1 ∧ (¬ x1.toInt = 2 ∨ 0 ≤ (PY n.toInt.toNat).toInt))))) r V ∧ V = V0) := by
  refine jTot.of_J [some (.ref a0), some (.int x1), none, none, none, none] moX7_isRing (Nat.le_of_ble_eq_true rfl) rfl ?_
  have hrx1 := j_rng x1
  have he : jeff [] V0 V0 := jeff.refl _ _
  obtain ⟨fs_a0, hO_a0, hK_a0⟩ := WT_obj hW id ha0
  have hF_n := hf_n.get hO_a0
  have hrn : 0 ≤ n.toInt ∧ n.toInt ≤ 120 := jok_rngI hK_a0 rfl hF_n
  have hF_px := hr_px.get hO_a0
  obtain ⟨w_px, hFq_px, b_px, hbq_px, hb_px⟩ := hK_a0.2 6 (.inr (some (.inl 18))) rfl
  cases hF_px.symm.trans (hFq_px.trans (congrArg some hbq_px))
  have hF_py := hr_py.get hO_a0
  obtain ⟨w_py, hFq_py, b_py, hbq_py, hb_py⟩ := hK_a0.2 7 (.inr (some (.inl 19))) rfl
  cases hF_py.symm.trans (hFq_py.trans (congrArg some hbq_py))
  have hF_pz := hr_pz.get hO_a0
  obtain ⟨w_pz, hFq_pz, b_pz, hbq_pz, hb_pz⟩ := hK_a0.2 8 (.inr (some (.inl 20))) rfl
  cases hF_pz.symm.trans (hFq_pz.trans (congrArg some hbq_pz))
  obtain ⟨hN_PX, hv_PX⟩ := WT_rngI (r := ((-2147483648), 2147483647)) hW id rfl ha_PX
  clear hN_PX
  obtain ⟨hN_PY, hv_PY⟩ := WT_rngI (r := ((-2147483648), 2147483647)) hW id rfl ha_PY
  clear hN_PY
  obtain ⟨hN_PZ, hv_PZ⟩ := WT_rngI (r := ((-2147483648), 2147483647)) hW id rfl ha_PZ
  clear hN_PZ
  have hjd := jdir_cases x1.toInt
  refine J_aload_n dX7_isRing_0 rfl ?_
  refine J_get jf_X7_22 dX7_isRing_1 hO_a0 hF_px ?_
  refine J_aload_n dX7_isRing_4 rfl ?_
  refine J_get jf_X7_109 dX7_isRing_5 hO_a0 hF_n ?_
  refine Jz_iald (r := ((-2147483648), 2147483647)) jEq.rf dX7_isRing_8 ha_PX rfl hv_PX (by omega) (by omega) (fun y8 hf8 hl8 hh8 => ?_)
  dsimp only at hl8 hh8
  clear hl8 hh8
  have e8 : (PX n.toInt.toNat).toInt = y8.toInt := by rw [hf8]
  refine J_istore_n dX7_isRing_9 rfl (by decide) ?_
  refine J_aload_n dX7_isRing_10 rfl ?_
  refine J_get jf_X7_25 dX7_isRing_11 hO_a0 hF_py ?_
  refine J_aload_n dX7_isRing_14 rfl ?_
  refine J_get jf_X7_109 dX7_isRing_15 hO_a0 hF_n ?_
  refine Jz_iald (r := ((-2147483648), 2147483647)) jEq.rf dX7_isRing_18 ha_PY rfl hv_PY (by omega) (by omega) (fun y18 hf18 hl18 hh18 => ?_)
  dsimp only at hl18 hh18
  clear hl18 hh18
  have e18 : (PY n.toInt.toNat).toInt = y18.toInt := by rw [hf18]
  refine J_istore_n dX7_isRing_19 rfl (by decide) ?_
  refine Jz_iconst 0 dX7_isRing_20 (by decide) (fun y20 he20 => ?_)
  refine J_istore dX7_isRing_21 rfl (by decide) ?_
  refine Jz_iconst 0 dX7_isRing_23 (by decide) (fun y23 he23 => ?_)
  refine J_istore dX7_isRing_24 rfl (by decide) ?_
  have L26 : ∀ (N : Nat) (i4n26 : Int32) (i5n26 : Int32), (0 ≤ i5n26.toInt ∧ i5n26.toInt ≤ jdir x1.toInt) → ((i4n26.toInt = 1 ∧ 2 ≤ n.toInt ∧ ∃ d : Nat, (d : Int) < i5n26.toInt ∧ ((PX n.toInt.toNat).toInt + jsx x1.toInt (d : Int) = 0 ∧ (PY n.toInt.toNat).toInt + jsy x1.toInt (d : Int) ((PX n.toInt.toNat).toInt + (PY n.toInt.toNat).toInt) = 0 ∧ (PZ n.toInt.toNat).toInt + jsz x1.toInt (d : Int) = 0)) ∨ (i4n26.toInt = 0 ∧ ¬ (2 ≤ n.toInt ∧ ∃ d : Nat, (d : Int) < i5n26.toInt ∧ ((PX n.toInt.toNat).toInt + jsx x1.toInt (d : Int) = 0 ∧ (PY n.toInt.toNat).toInt + jsy x1.toInt (d : Int) ((PX n.toInt.toNat).toInt + (PY n.toInt.toNat).toInt) = 0 ∧ (PZ n.toInt.toNat).toInt + jsz x1.toInt (d : Int) = 0)))) → (300 - i5n26.toInt).toNat < N → J tS mX7_isRing d 26 [some (.ref a0), some (.int x1), some (.int y8), some (.int y18), some (.int i4n26), some (.int i5n26)] [] V0 0 0 (fun r V => (fun r _ => ∃ y : Int32, r = some (.int y) ∧ (0 ≤ y.toInt) ∧ (y.toInt ≤ 1) ∧ ((y.toInt = 1 ∧ (2 ≤ n.toInt ∧ jsq x1.toInt (PX n.toInt.toNat).toInt (PY n.toInt.toNat).toInt (PZ n.toInt.toNat).toInt = 1 ∧ (¬ x1.toInt = 2 ∨ 0 ≤ (PY n.toInt.toNat).toInt))) ∨ (y.toInt = 0 ∧ ¬ (2 ≤ n.toInt ∧ jsq x1.toInt (PX n.toInt.toNat).toInt (PY n.toInt.toNat).toInt (PZ n.toInt.toNat).toInt = 1 ∧ (¬ x1.toInt = 2 ∨ 0 ≤ (PY n.toInt.toNat).toInt))))) r V ∧ V = V0) := by
    intro N
    induction N with
    | zero => intro i4n26 i5n26  hi5 hb hm; exact absurd hm (Nat.not_lt_zero _)
    | succ N ih =>
      intro i4n26 i5n26  hi5 hb hm
      have ih26 := ih
      have hri5 := j_rng i5n26
      refine J_iload dX7_isRing_26 rfl ?_
      refine J_iload_n dX7_isRing_28 rfl ?_
      refine J_callS1 moX7_directions jw_ml_X7_133 jw_st_X7_directions dX7_isRing_29 (w_X7_directions (d - 1) _ x1 (by omega)   ) (by omega) (Nat.zero_le _) (Nat.zero_le _) (Nat.le_of_ble_eq_true rfl) (fun r29 V29 h29 => ?_)
      obtain ⟨⟨y29, rfl, hl29, hh29, hP29_0⟩, hE29⟩ := h29
      have hE29 := hE29.symm
      subst hE29
      have hz29 : jEq y29.toInt (jdir (x1.toInt)) := hP29_0
      simp only [hP29_0] at hl29 hh29
      clear hP29_0
      refine Jz_icmp_ge (tgt := 105) jEq.rf hz29 dX7_isRing_32 (by decide) (fun c32 => ?_) (fun c32 => ?_)
      · refine J_iload dX7_isRing_105 rfl ?_
        exact J_ret (r := some (.int _)) dX7_isRing_107 ⟨rfl, _, rfl, (nar_b (by omega) (by omega))⟩ (⟨⟨_, rfl, (by omega), (by omega), (hb.elim (fun q => Or.inl ⟨q.1, q.2.1, (jring_iff (g := x1.toInt) (x := (PX n.toInt.toNat).toInt) (y := (PY n.toInt.toNat).toInt) (z := (PZ n.toInt.toNat).toInt) ⟨hp0, hp1⟩ (fun z => hp8.elim (fun q => absurd q z) id)).mpr (by obtain ⟨d, hd, hq⟩ := q.2.2; exact ⟨d, by omega, hq⟩)⟩) (fun q => Or.inr ⟨q.1, fun z => by obtain ⟨d, hd, hq⟩ := (jring_iff (g := x1.toInt) (x := (PX n.toInt.toNat).toInt) (y := (PY n.toInt.toNat).toInt) (z := (PZ n.toInt.toNat).toInt) ⟨hp0, hp1⟩ (fun z => hp8.elim (fun q => absurd q z) id)).mp z.2; first | exact absurd z.1 (by omega) | exact q.2 ⟨z.1, d, by omega, hq⟩⟩))⟩, rfl⟩)
      · refine J_aload_n dX7_isRing_35 rfl ?_
        refine J_get jf_X7_109 dX7_isRing_36 hO_a0 hF_n ?_
        refine Jz_iconst 1 dX7_isRing_39 (by decide) (fun y39 he39 => ?_)
        refine Jz_icmp_le (tgt := 105) jEq.rf he39 dX7_isRing_40 (by decide) (fun c40 => ?_) (fun c40 => ?_)
        · refine J_iload dX7_isRing_105 rfl ?_
          exact J_ret (r := some (.int _)) dX7_isRing_107 ⟨rfl, _, rfl, (nar_b (by omega) (by omega))⟩ (⟨⟨_, rfl, (by omega), (by omega), (hb.elim (fun q => Or.inl ⟨q.1, q.2.1, (jring_iff (g := x1.toInt) (x := (PX n.toInt.toNat).toInt) (y := (PY n.toInt.toNat).toInt) (z := (PZ n.toInt.toNat).toInt) ⟨hp0, hp1⟩ (fun z => hp8.elim (fun q => absurd q z) id)).mpr (by obtain ⟨d, hd, hq⟩ := q.2.2; exact ⟨d, by omega, hq⟩)⟩) (fun q => Or.inr ⟨q.1, fun z => by obtain ⟨d, hd, hq⟩ := (jring_iff (g := x1.toInt) (x := (PX n.toInt.toNat).toInt) (y := (PY n.toInt.toNat).toInt) (z := (PZ n.toInt.toNat).toInt) ⟨hp0, hp1⟩ (fun z => hp8.elim (fun q => absurd q z) id)).mp z.2; first | exact absurd z.1 (by omega) | exact q.2 ⟨z.1, d, by omega, hq⟩⟩))⟩, rfl⟩)
        · refine J_iload dX7_isRing_43 rfl ?_
          refine Jz_if_ne (tgt := 92) jEq.rf dX7_isRing_45 (by decide) (fun c45 => ?_) (fun c45 => ?_)
          · refine Jz_iconst 1 dX7_isRing_92 (by decide) (fun y92 he92 => ?_)
            refine J_goto (tgt := 97) dX7_isRing_93 (by decide) ?_
            refine J_istore dX7_isRing_97 rfl (by decide) ?_
            refine Jz_iinc 1 dX7_isRing_99 rfl rfl (by decide) jEq.rf (by decide) (by omega) (by omega) (fun y99 he99 => ?_)
            refine J_goto (tgt := 26) dX7_isRing_102 (by decide) ?_
            refine J.mask [true, true, true, true, true, true] ?_
            exact ih26  y92 y99  (by (try simp only [he92.eq, he99.eq, true_and, and_true]) <;> omega) (hb.elim (fun q => Or.inl ⟨he92.eq, q.2.1, by obtain ⟨d, hd, hq⟩ := q.2.2; exact ⟨d, by rw [he99.eq]; omega, hq⟩⟩) (fun q => absurd q.1 c45)) (by (try simp only [he92.eq, he99.eq, true_and, and_true]) <;> omega)
          · refine J_iload_n dX7_isRing_48 rfl ?_
            refine J_iload_n dX7_isRing_49 rfl ?_
            refine J_iload dX7_isRing_50 rfl ?_
            refine J_callS2 moX7_stepX jw_ml_X7_112 jw_st_X7_stepX dX7_isRing_52 (w_X7_stepX_z (d - 1) _ x1 i5n26 (by omega)   (by omega) (by omega)) (by omega) (Nat.zero_le _) (Nat.zero_le _) (Nat.le_of_ble_eq_true rfl) (fun r52 V52 h52 => ?_)
            obtain ⟨⟨y52, rfl, hl52, hh52, hP52_0⟩, hE52⟩ := h52
            have hE52 := hE52.symm
            subst hE52
            have hz52 : jEq y52.toInt (jsx (x1.toInt) (i5n26.toInt)) := hP52_0
            simp only [hP52_0] at hl52 hh52
            clear hP52_0
            refine Jz_iadd jEq.rf hz52 dX7_isRing_55 (by omega) (by omega) (fun y55 he55 => ?_)
            refine Jz_if_ne (tgt := 96) he55 dX7_isRing_56 (by decide) (fun c56 => ?_) (fun c56 => ?_)
            · refine Jz_iconst 0 dX7_isRing_96 (by decide) (fun y96 he96 => ?_)
              refine J_istore dX7_isRing_97 rfl (by decide) ?_
              refine Jz_iinc 1 dX7_isRing_99 rfl rfl (by decide) jEq.rf (by decide) (by omega) (by omega) (fun y99 he99 => ?_)
              refine J_goto (tgt := 26) dX7_isRing_102 (by decide) ?_
              refine J.mask [true, true, true, true, true, true] ?_
              exact ih26  y96 y99  (by (try simp only [he96.eq, he99.eq, true_and, and_true]) <;> omega) (Or.inr ⟨he96.eq, fun z => by obtain ⟨d, hd, hq⟩ := z.2; rw [he99.eq] at hd; by_cases h9 : (d : Int) = i5n26.toInt; (rw [h9] at hq; exact c56 (by rw [hf8] at hq; exact hq.1)); exact hb.elim (fun q => absurd q.1 (by omega)) (fun q => q.2 ⟨z.1, d, by omega, hq⟩)⟩) (by (try simp only [he96.eq, he99.eq, true_and, and_true]) <;> omega)
            · refine J_iload_n dX7_isRing_59 rfl ?_
              refine J_iload_n dX7_isRing_60 rfl ?_
              refine J_iload dX7_isRing_61 rfl ?_
              refine J_iload_n dX7_isRing_63 rfl ?_
              refine J_iload_n dX7_isRing_64 rfl ?_
              refine Jz_iadd jEq.rf jEq.rf dX7_isRing_65 (by omega) (by omega) (fun y65 he65 => ?_)
              refine J_callS3 moX7_stepY jw_ml_X7_115 jw_st_X7_stepY dX7_isRing_66 (w_X7_stepY_z (d - 1) _ x1 i5n26 y65 (by omega)   (by omega) (by omega)) (by omega) (Nat.zero_le _) (Nat.zero_le _) (Nat.le_of_ble_eq_true rfl) (fun r66 V66 h66 => ?_)
              obtain ⟨⟨y66, rfl, hl66, hh66, hP66_0⟩, hE66⟩ := h66
              have hE66 := hE66.symm
              subst hE66
              try simp only [he65.eq] at hP66_0
              have hz66 : jEq y66.toInt (jsy (x1.toInt) (i5n26.toInt) (y8.toInt + y18.toInt)) := hP66_0
              simp only [hP66_0] at hl66 hh66
              clear hP66_0
              refine Jz_iadd jEq.rf hz66 dX7_isRing_69 (by omega) (by omega) (fun y69 he69 => ?_)
              refine Jz_if_ne (tgt := 96) he69 dX7_isRing_70 (by decide) (fun c70 => ?_) (fun c70 => ?_)
              · refine Jz_iconst 0 dX7_isRing_96 (by decide) (fun y96 he96 => ?_)
                refine J_istore dX7_isRing_97 rfl (by decide) ?_
                refine Jz_iinc 1 dX7_isRing_99 rfl rfl (by decide) jEq.rf (by decide) (by omega) (by omega) (fun y99 he99 => ?_)
                refine J_goto (tgt := 26) dX7_isRing_102 (by decide) ?_
                refine J.mask [true, true, true, true, true, true] ?_
                exact ih26  y96 y99  (by (try simp only [he96.eq, he99.eq, true_and, and_true]) <;> omega) (Or.inr ⟨he96.eq, fun z => by obtain ⟨d, hd, hq⟩ := z.2; rw [he99.eq] at hd; by_cases h9 : (d : Int) = i5n26.toInt; (rw [h9] at hq; exact c70 (by rw [hf8, hf18] at hq; exact hq.2.1)); exact hb.elim (fun q => absurd q.1 (by omega)) (fun q => q.2 ⟨z.1, d, by omega, hq⟩)⟩) (by (try simp only [he96.eq, he99.eq, true_and, and_true]) <;> omega)
              · refine J_aload_n dX7_isRing_73 rfl ?_
                refine J_get jf_X7_28 dX7_isRing_74 hO_a0 hF_pz ?_
                refine J_aload_n dX7_isRing_77 rfl ?_
                refine J_get jf_X7_109 dX7_isRing_78 hO_a0 hF_n ?_
                refine Jz_iald (r := ((-2147483648), 2147483647)) jEq.rf dX7_isRing_81 ha_PZ rfl hv_PZ (by omega) (by omega) (fun y81 hf81 hl81 hh81 => ?_)
                dsimp only at hl81 hh81
                clear hl81 hh81
                have e81 : (PZ n.toInt.toNat).toInt = y81.toInt := by rw [hf81]
                refine J_iload_n dX7_isRing_82 rfl ?_
                refine J_iload dX7_isRing_83 rfl ?_
                refine J_callS2 moX7_stepZ jw_ml_X7_119 jw_st_X7_stepZ dX7_isRing_85 (w_X7_stepZ_z (d - 1) _ x1 i5n26 (by omega)   (by omega) (by omega)) (by omega) (Nat.zero_le _) (Nat.zero_le _) (Nat.le_of_ble_eq_true rfl) (fun r85 V85 h85 => ?_)
                obtain ⟨⟨y85, rfl, hl85, hh85, hP85_0⟩, hE85⟩ := h85
                have hE85 := hE85.symm
                subst hE85
                have hz85 : jEq y85.toInt (jsz (x1.toInt) (i5n26.toInt)) := hP85_0
                simp only [hP85_0] at hl85 hh85
                clear hP85_0
                refine Jz_iadd jEq.rf hz85 dX7_isRing_88 (by omega) (by omega) (fun y88 he88 => ?_)
                refine Jz_if_ne (tgt := 96) he88 dX7_isRing_89 (by decide) (fun c89 => ?_) (fun c89 => ?_)
                · refine Jz_iconst 0 dX7_isRing_96 (by decide) (fun y96 he96 => ?_)
                  refine J_istore dX7_isRing_97 rfl (by decide) ?_
                  refine Jz_iinc 1 dX7_isRing_99 rfl rfl (by decide) jEq.rf (by decide) (by omega) (by omega) (fun y99 he99 => ?_)
                  refine J_goto (tgt := 26) dX7_isRing_102 (by decide) ?_
                  refine J.mask [true, true, true, true, true, true] ?_
                  exact ih26  y96 y99  (by (try simp only [he96.eq, he99.eq, true_and, and_true]) <;> omega) (Or.inr ⟨he96.eq, fun z => by obtain ⟨d, hd, hq⟩ := z.2; rw [he99.eq] at hd; by_cases h9 : (d : Int) = i5n26.toInt; (rw [h9] at hq; exact c89 (by rw [hf81] at hq; exact hq.2.2)); exact hb.elim (fun q => absurd q.1 (by omega)) (fun q => q.2 ⟨z.1, d, by omega, hq⟩)⟩) (by (try simp only [he96.eq, he99.eq, true_and, and_true]) <;> omega)
                · refine Jz_iconst 1 dX7_isRing_92 (by decide) (fun y92 he92 => ?_)
                  refine J_goto (tgt := 97) dX7_isRing_93 (by decide) ?_
                  refine J_istore dX7_isRing_97 rfl (by decide) ?_
                  refine Jz_iinc 1 dX7_isRing_99 rfl rfl (by decide) jEq.rf (by decide) (by omega) (by omega) (fun y99 he99 => ?_)
                  refine J_goto (tgt := 26) dX7_isRing_102 (by decide) ?_
                  refine J.mask [true, true, true, true, true, true] ?_
                  exact ih26  y92 y99  (by (try simp only [he92.eq, he99.eq, true_and, and_true]) <;> omega) (Or.inl ⟨he92.eq, by omega, i5n26.toInt.toNat, by rw [he99.eq]; omega, by rw [Int.toNat_of_nonneg (a := i5n26.toInt) (by omega)]; exact ⟨by rw [hf8]; exact c56, by rw [hf8, hf18]; exact c70, by rw [hf81]; exact c89⟩⟩) (by (try simp only [he92.eq, he99.eq, true_and, and_true]) <;> omega)
  refine J.mask [true, true, true, true, true, true] ?_
  exact L26 _  y20 y23    (by (try simp only [he20.eq, he23.eq, true_and, and_true]) <;> omega) (Or.inr ⟨he20.eq, fun z => by obtain ⟨d, hd, hq⟩ := z.2; rw [he23.eq] at hd; omega⟩) (Nat.lt_succ_self _)
