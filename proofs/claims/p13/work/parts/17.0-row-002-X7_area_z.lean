set_option maxRecDepth 100000 in
set_option maxHeartbeats 8000000 in
theorem w_X7_area_z {tS : jTS} (d : Nat) (V0 : jH) (a0 : Nat) (n : Int32) (px : Nat) (py : Nat) (PX : Nat → Int32) (PY : Nat → Int32) (hd : 0 ≤ d) (hW : WT V0) (ha0 : jis V0 (.inr 5) a0) (hf_n : jfI V0 a0 5 5 n) (hr_px : jfR V0 a0 5 6 px) (hr_py : jfR V0 a0 5 7 py) (ha_PX : V0 px = some (.inl (18, 121, .inl PX))) (ha_PY : V0 py = some (.inl (19, 121, .inl PY))) (hp0 : (PX 0).toInt = 0) (hp1 : (PY 0).toInt = 0) : jTot tS mX7_area d [.ref a0] V0 0 0 (fun r V => (fun r _ => ∃ y : Int32, r = some (.int y) ∧ ((-2147483648) ≤ y.toInt) ∧ (y.toInt ≤ 2147483647) ∧ (y.toInt = (jab (jar PX PY n.toInt.toNat)).toInt)) r V ∧ V = V0) := by
  refine jTot.of_J [some (.ref a0), none, none, none] moX7_area (Nat.le_of_ble_eq_true rfl) rfl ?_
  have he : jeff [] V0 V0 := jeff.refl _ _
  obtain ⟨fs_a0, hO_a0, hK_a0⟩ := WT_obj hW id ha0
  have hF_n := hf_n.get hO_a0
  have hrn : 0 ≤ n.toInt ∧ n.toInt ≤ 120 := jok_rngI hK_a0 rfl hF_n
  have hF_px := hr_px.get hO_a0
  obtain ⟨w_px, hFq_px, b_px, hbq_px, hb_px⟩ := hK_a0.2 6 (.inr (some (.inl 18))) rfl
  cases hF_px.symm.trans (hFq_px.trans (congrArg some hbq_px))
  have hF_py := hr_py.get hO_a0
  obtain ⟨w_py, hFq_py, b_py, hbq_py, hb_py⟩ := hK_a0.2 7 (.inr (some (.inl 19))) rfl
  cases hF_py.symm.trans (hFq_py.trans (congrArg some hbq_py))
  obtain ⟨hN_PX, hv_PX⟩ := WT_rngI (r := ((-2147483648), 2147483647)) hW id rfl ha_PX
  clear hN_PX
  obtain ⟨hN_PY, hv_PY⟩ := WT_rngI (r := ((-2147483648), 2147483647)) hW id rfl ha_PY
  clear hN_PY
  refine Jz_iconst 0 dX7_area_0 (by decide) (fun y0 he0 => ?_)
  refine J_istore_n dX7_area_1 rfl (by decide) ?_
  refine Jz_iconst 0 dX7_area_2 (by decide) (fun y2 he2 => ?_)
  refine J_istore_n dX7_area_3 rfl (by decide) ?_
  have L4 : ∀ (N : Nat) (i1n4 : Int32) (i2n4 : Int32), (0 ≤ i2n4.toInt ∧ i2n4.toInt ≤ n.toInt + 1) → (i1n4 = jar PX PY (min i2n4.toInt.toNat n.toInt.toNat)) → (300 - i2n4.toInt).toNat < N → J tS mX7_area d 4 [some (.ref a0), some (.int i1n4), some (.int i2n4), none] [] V0 0 0 (fun r V => (fun r _ => ∃ y : Int32, r = some (.int y) ∧ ((-2147483648) ≤ y.toInt) ∧ (y.toInt ≤ 2147483647) ∧ (y.toInt = (jab (jar PX PY n.toInt.toNat)).toInt)) r V ∧ V = V0) := by
    intro N
    induction N with
    | zero => intro i1n4 i2n4  hi2 hs hm; exact absurd hm (Nat.not_lt_zero _)
    | succ N ih =>
      intro i1n4 i2n4  hi2 hs hm
      have ih4 := ih
      have hri2 := j_rng i2n4
      refine J_iload_n dX7_area_4 rfl ?_
      refine J_aload_n dX7_area_5 rfl ?_
      refine J_get jf_X7_109 dX7_area_6 hO_a0 hF_n ?_
      refine Jz_icmp_gt (tgt := 64) jEq.rf jEq.rf dX7_area_9 (by decide) (fun c9 => ?_) (fun c9 => ?_)
      · refine J_iload_n dX7_area_64 rfl ?_
        refine Jz_if_ge (tgt := 73) jEq.rf dX7_area_65 (by decide) (fun c65 => ?_) (fun c65 => ?_)
        · refine J_iload_n dX7_area_73 rfl ?_
          exact J_ret (r := some (.int _)) dX7_area_74 ⟨rfl, _, rfl, rfl⟩ (⟨⟨_, rfl, (j_rng _).1, (j_rng _).2, (by unfold jab; first | (rw [hs, Nat.min_eq_right (by omega)] at c65 ⊢; rw [if_neg (fun q => by rw [Int32.le_iff_toInt_le, Int32.toInt_zero] at q; omega), Int32.zero_sub]) | (rw [hs, Nat.min_eq_right (by omega)] at c65 ⊢; rw [if_pos (by rw [Int32.le_iff_toInt_le, Int32.toInt_zero]; omega)]))⟩, rfl⟩)
        · refine J_iload_n dX7_area_68 rfl ?_
          refine J_ineg dX7_area_69 ?_
          refine J_goto (tgt := 74) dX7_area_70 (by decide) ?_
          exact J_ret (r := some (.int _)) dX7_area_74 ⟨rfl, _, rfl, rfl⟩ (⟨⟨_, rfl, (j_rng _).1, (j_rng _).2, (by unfold jab; first | (rw [hs, Nat.min_eq_right (by omega)] at c65 ⊢; rw [if_neg (fun q => by rw [Int32.le_iff_toInt_le, Int32.toInt_zero] at q; omega), Int32.zero_sub]) | (rw [hs, Nat.min_eq_right (by omega)] at c65 ⊢; rw [if_pos (by rw [Int32.le_iff_toInt_le, Int32.toInt_zero]; omega)]))⟩, rfl⟩)
      · refine J_iload_n dX7_area_12 rfl ?_
        refine J_aload_n dX7_area_13 rfl ?_
        refine J_get jf_X7_109 dX7_area_14 hO_a0 hF_n ?_
        refine Jz_icmp_ne (tgt := 24) jEq.rf jEq.rf dX7_area_17 (by decide) (fun c17 => ?_) (fun c17 => ?_)
        · refine J_iload_n dX7_area_24 rfl ?_
          refine Jz_iconst 1 dX7_area_25 (by decide) (fun y25 he25 => ?_)
          refine Jz_iadd jEq.rf he25 dX7_area_26 (by omega) (by omega) (fun y26 he26 => ?_)
          refine J_istore_n dX7_area_27 rfl (by decide) ?_
          refine J_iload_n dX7_area_28 rfl ?_
          refine J_aload_n dX7_area_29 rfl ?_
          refine J_get jf_X7_22 dX7_area_30 hO_a0 hF_px ?_
          refine J_iload_n dX7_area_33 rfl ?_
          refine Jz_iald (r := ((-2147483648), 2147483647)) jEq.rf dX7_area_34 ha_PX rfl hv_PX (by omega) (by omega) (fun y34 hf34 hl34 hh34 => ?_)
          dsimp only at hl34 hh34
          clear hl34 hh34
          refine J_aload_n dX7_area_35 rfl ?_
          refine J_get jf_X7_25 dX7_area_36 hO_a0 hF_py ?_
          refine J_iload_n dX7_area_39 rfl ?_
          refine Jz_iald (r := ((-2147483648), 2147483647)) he26 dX7_area_40 ha_PY rfl hv_PY (by omega) (by omega) (fun y40 hf40 hl40 hh40 => ?_)
          dsimp only at hl40 hh40
          clear hl40 hh40
          refine J_imul dX7_area_41 ?_
          refine J_aload_n dX7_area_42 rfl ?_
          refine J_get jf_X7_22 dX7_area_43 hO_a0 hF_px ?_
          refine J_iload_n dX7_area_46 rfl ?_
          refine Jz_iald (r := ((-2147483648), 2147483647)) he26 dX7_area_47 ha_PX rfl hv_PX (by omega) (by omega) (fun y47 hf47 hl47 hh47 => ?_)
          dsimp only at hl47 hh47
          clear hl47 hh47
          refine J_aload_n dX7_area_48 rfl ?_
          refine J_get jf_X7_25 dX7_area_49 hO_a0 hF_py ?_
          refine J_iload_n dX7_area_52 rfl ?_
          refine Jz_iald (r := ((-2147483648), 2147483647)) jEq.rf dX7_area_53 ha_PY rfl hv_PY (by omega) (by omega) (fun y53 hf53 hl53 hh53 => ?_)
          dsimp only at hl53 hh53
          clear hl53 hh53
          refine J_imul dX7_area_54 ?_
          refine J_isub dX7_area_55 ?_
          refine J_iadd dX7_area_56 ?_
          refine J_istore_n dX7_area_57 rfl (by decide) ?_
          refine Jz_iinc 1 dX7_area_58 rfl rfl (by decide) jEq.rf (by decide) (by omega) (by omega) (fun y58 he58 => ?_)
          refine J_goto (tgt := 4) dX7_area_61 (by decide) ?_
          refine J.mask [true, true, true, false] ?_
          exact ih4  (i1n4 + ((y34 * y40) - (y47 * y53))) y58  (by (try simp only [he58.eq, true_and, and_true]) <;> omega) (by rw [he58.eq, Nat.min_eq_left (by omega), show (i2n4.toInt + 1).toNat = i2n4.toInt.toNat + 1 by omega]; show _ = jar PX PY _ + (PX _ * PY (_ + 1) - PX (_ + 1) * PY _); rw [hs, Nat.min_eq_left (by omega), ← hf34, ← hf40, ← hf47, ← hf53, show (i2n4.toInt + 1).toNat = i2n4.toInt.toNat + 1 by omega]) (by (try simp only [he58.eq, true_and, and_true]) <;> omega)
        · refine Jz_iconst 0 dX7_area_20 (by decide) (fun y20 he20 => ?_)
          refine J_goto (tgt := 27) dX7_area_21 (by decide) ?_
          refine J_istore_n dX7_area_27 rfl (by decide) ?_
          refine J_iload_n dX7_area_28 rfl ?_
          refine J_aload_n dX7_area_29 rfl ?_
          refine J_get jf_X7_22 dX7_area_30 hO_a0 hF_px ?_
          refine J_iload_n dX7_area_33 rfl ?_
          refine Jz_iald (r := ((-2147483648), 2147483647)) jEq.rf dX7_area_34 ha_PX rfl hv_PX (by omega) (by omega) (fun y34 hf34 hl34 hh34 => ?_)
          dsimp only at hl34 hh34
          clear hl34 hh34
          refine J_aload_n dX7_area_35 rfl ?_
          refine J_get jf_X7_25 dX7_area_36 hO_a0 hF_py ?_
          refine J_iload_n dX7_area_39 rfl ?_
          refine Jz_iald (r := ((-2147483648), 2147483647)) he20 dX7_area_40 ha_PY rfl hv_PY (by omega) (by omega) (fun y40 hf40 hl40 hh40 => ?_)
          dsimp only at hl40 hh40
          clear hl40 hh40
          refine J_imul dX7_area_41 ?_
          refine J_aload_n dX7_area_42 rfl ?_
          refine J_get jf_X7_22 dX7_area_43 hO_a0 hF_px ?_
          refine J_iload_n dX7_area_46 rfl ?_
          refine Jz_iald (r := ((-2147483648), 2147483647)) he20 dX7_area_47 ha_PX rfl hv_PX (by omega) (by omega) (fun y47 hf47 hl47 hh47 => ?_)
          dsimp only at hl47 hh47
          clear hl47 hh47
          refine J_aload_n dX7_area_48 rfl ?_
          refine J_get jf_X7_25 dX7_area_49 hO_a0 hF_py ?_
          refine J_iload_n dX7_area_52 rfl ?_
          refine Jz_iald (r := ((-2147483648), 2147483647)) jEq.rf dX7_area_53 ha_PY rfl hv_PY (by omega) (by omega) (fun y53 hf53 hl53 hh53 => ?_)
          dsimp only at hl53 hh53
          clear hl53 hh53
          refine J_imul dX7_area_54 ?_
          refine J_isub dX7_area_55 ?_
          refine J_iadd dX7_area_56 ?_
          refine J_istore_n dX7_area_57 rfl (by decide) ?_
          refine Jz_iinc 1 dX7_area_58 rfl rfl (by decide) jEq.rf (by decide) (by omega) (by omega) (fun y58 he58 => ?_)
          refine J_goto (tgt := 4) dX7_area_61 (by decide) ?_
          refine J.mask [true, true, true, false] ?_
          exact ih4  (i1n4 + ((y34 * y40) - (y47 * y53))) y58  (by (try simp only [he58.eq, true_and, and_true]) <;> omega) (by rw [he58.eq, Nat.min_eq_right (by omega), hs, Nat.min_eq_right (by omega), ← hf34, ← hf40, ← hf47, ← hf53, show Int.toNat 0 = 0 from rfl, show PX 0 = 0 from jI_inj.mp (hp0.trans rfl), show PY 0 = 0 from jI_inj.mp (hp1.trans rfl), jI_z0]) (by (try simp only [he58.eq, true_and, and_true]) <;> omega)
  refine J.mask [true, true, true, false] ?_
  exact L4 _  y0 y2    (by (try simp only [he0.eq, he2.eq, true_and, and_true]) <;> omega) (by have e : y0 = 0 := jI_inj.mp (he0.eq.trans rfl); rw [e, he2.eq, show min (Int.toNat 0) n.toInt.toNat = 0 from Nat.zero_min _]; rfl) (Nat.lt_succ_self _)
