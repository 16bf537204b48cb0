set_option maxRecDepth 100000 in
set_option maxHeartbeats 8000000 in
theorem w_X7_forgets_z {tS : jTS} (d : Nat) (V0 : jH) (a0 : Nat) (x1 : Int32) (px : Nat) (py : Nat) (pz : Nat) (se : Nat) (PX : Nat → Int32) (PY : Nat → Int32) (PZ : Nat → Int32) (SE : Nat → Int32) (hd : 1 ≤ d) (hW : WT V0) (ha0 : jis V0 (.inr 5) a0) (hr_px : jfR V0 a0 5 6 px) (hr_py : jfR V0 a0 5 7 py) (hr_pz : jfR V0 a0 5 8 pz) (hr_se : jfR V0 a0 5 16 se) (ha_PX : V0 px = some (.inl (18, 121, .inl PX))) (ha_PY : V0 py = some (.inl (19, 121, .inl PY))) (ha_PZ : V0 pz = some (.inl (20, 121, .inl PZ))) (ha_SE : V0 se = some (.inl (41, 79507, .inl SE))) (hp0 : 0 ≤ x1.toInt) (hp1 : x1.toInt ≤ 20) (hp2 : ∀ k : Nat, (k : Int) ≤ x1.toInt → jbx (jPf PX PY PZ k)) (hp3 : jsn SE (jpl3 (jPf PX PY PZ) x1.toInt.toNat)) (hp4 : ∀ i k : Nat, i < k → (k : Int) ≤ x1.toInt → ¬ jPf PX PY PZ k = jPf PX PY PZ i) : jTot tS mX7_forgets d [.ref a0, .int x1] V0 0 0 (fun r V => (jPost [.inl 41] V0 rV) r V ∧ (∃ SE2 : Nat → Int32, V se = some (.inl (41, 79507, .inl SE2)) ∧ jsn SE2 [])) := by
  refine jTot.of_J [some (.ref a0), some (.int x1), none] moX7_forgets (Nat.le_of_ble_eq_true rfl) rfl ?_
  have hrx1 := j_rng x1
  have he : jeff [.inl 41] V0 V0 := jeff.refl _ _
  obtain ⟨fs_a0, hO_a0, hK_a0⟩ := WT_obj hW id ha0
  have hF_px := hr_px.get hO_a0
  obtain ⟨w_px, hFq_px, b_px, hbq_px, hb_px⟩ := hK_a0.2 6 (.inr (some (.inl 18))) rfl
  cases hF_px.symm.trans (hFq_px.trans (congrArg some hbq_px))
  have hF_py := hr_py.get hO_a0
  obtain ⟨w_py, hFq_py, b_py, hbq_py, hb_py⟩ := hK_a0.2 7 (.inr (some (.inl 19))) rfl
  cases hF_py.symm.trans (hFq_py.trans (congrArg some hbq_py))
  have hF_pz := hr_pz.get hO_a0
  obtain ⟨w_pz, hFq_pz, b_pz, hbq_pz, hb_pz⟩ := hK_a0.2 8 (.inr (some (.inl 20))) rfl
  cases hF_pz.symm.trans (hFq_pz.trans (congrArg some hbq_pz))
  have hF_se := hr_se.get hO_a0
  obtain ⟨w_se, hFq_se, b_se, hbq_se, hb_se⟩ := hK_a0.2 16 (.inr (some (.inl 41))) rfl
  cases hF_se.symm.trans (hFq_se.trans (congrArg some hbq_se))
  obtain ⟨hN_PX, hv_PX⟩ := WT_rngI (r := ((-2147483648), 2147483647)) hW id rfl ha_PX
  clear hN_PX
  obtain ⟨hN_PY, hv_PY⟩ := WT_rngI (r := ((-2147483648), 2147483647)) hW id rfl ha_PY
  clear hN_PY
  obtain ⟨hN_PZ, hv_PZ⟩ := WT_rngI (r := ((-2147483648), 2147483647)) hW id rfl ha_PZ
  clear hN_PZ
  obtain ⟨hN_SE, hv_SE⟩ := WT_rngI (r := (0, 1)) hW id rfl ha_SE
  clear hN_SE
  refine Jz_iconst 0 dX7_forgets_0 (by decide) (fun y0 he0 => ?_)
  refine J_istore_n dX7_forgets_1 rfl (by decide) ?_
  have L2 : ∀ (N : Nat) (V : jH) (i2n2 : Int32) (F41n2 : Nat → Int32), WT V → jeff [.inl 41] V0 V → (jis V (.inr 5) a0) → (jis V (.inl 18) px) → (jis V (.inl 19) py) → (jis V (.inl 20) pz) → (jis V (.inl 41) se) → (V a0 = some (.inr (5, fs_a0))) → (jokO V (jFs 5) fs_a0) → (V se = some (.inl (41, 79507, .inl F41n2))) → (V px = some (.inl (18, 121, .inl PX))) → (V py = some (.inl (19, 121, .inl PY))) → (V pz = some (.inl (20, 121, .inl PZ))) → (0 ≤ i2n2.toInt ∧ i2n2.toInt ≤ x1.toInt + 1) → (∀ p, jbx p → ((F41n2 (jspot p).toNat).toInt = 0 ↔ ¬ ∃ i : Nat, i2n2.toInt ≤ (i : Int) ∧ (i : Int) ≤ x1.toInt ∧ p = jPf PX PY PZ i)) → (300 - i2n2.toInt).toNat < N → J tS mX7_forgets d 2 [some (.ref a0), some (.int x1), some (.int i2n2)] [] V 0 0 (fun r V => (jPost [.inl 41] V0 rV) r V ∧ (∃ SE2 : Nat → Int32, V se = some (.inl (41, 79507, .inl SE2)) ∧ jsn SE2 [])) := by
    intro N
    induction N with
    | zero => intro V i2n2 F41n2 hW he ha0 hb_px hb_py hb_pz hb_se hO_a0 hK_a0 hAF41n2 ha_PX ha_PY ha_PZ hi2 hse hm; exact absurd hm (Nat.not_lt_zero _)
    | succ N ih =>
      intro V i2n2 F41n2 hW he ha0 hb_px hb_py hb_pz hb_se hO_a0 hK_a0 hAF41n2 ha_PX ha_PY ha_PZ hi2 hse hm
      have ih2 := ih
      have hri2 := j_rng i2n2
      obtain ⟨hNF41n2, hvF41n2⟩ := WT_rngI (r := (0, 1)) hW id rfl hAF41n2
      clear hNF41n2
      refine J_iload_n dX7_forgets_2 rfl ?_
      refine J_iload_n dX7_forgets_3 rfl ?_
      refine Jz_icmp_gt (tgt := 40) jEq.rf jEq.rf dX7_forgets_4 (by decide) (fun c4 => ?_) (fun c4 => ?_)
      · exact J_ret (r := none) dX7_forgets_40 ⟨rfl, rfl⟩ (⟨⟨hW, he, rfl⟩, ⟨F41n2, hAF41n2, fun p hp => (hse p hp).trans ⟨fun _ => List.not_mem_nil, fun _ ⟨i, h0, h1, h2⟩ => by omega⟩⟩⟩)
      · refine J_aload_n dX7_forgets_7 rfl ?_
        refine J_get jf_X7_55 dX7_forgets_8 hO_a0 hF_se ?_
        refine J_aload_n dX7_forgets_11 rfl ?_
        refine J_get jf_X7_22 dX7_forgets_12 hO_a0 hF_px ?_
        refine J_iload_n dX7_forgets_15 rfl ?_
        refine Jz_iald (r := ((-2147483648), 2147483647)) jEq.rf dX7_forgets_16 ha_PX rfl hv_PX (by omega) (by omega) (fun y16 hf16 hl16 hh16 => ?_)
        dsimp only at hl16 hh16
        clear hl16 hh16
        have e16 : (PX i2n2.toInt.toNat).toInt = y16.toInt := by rw [hf16]
        have hbk := hp2 i2n2.toInt.toNat (by omega)
        refine J_aload_n dX7_forgets_17 rfl ?_
        refine J_get jf_X7_25 dX7_forgets_18 hO_a0 hF_py ?_
        refine J_iload_n dX7_forgets_21 rfl ?_
        refine Jz_iald (r := ((-2147483648), 2147483647)) jEq.rf dX7_forgets_22 ha_PY rfl hv_PY (by omega) (by omega) (fun y22 hf22 hl22 hh22 => ?_)
        dsimp only at hl22 hh22
        clear hl22 hh22
        have e22 : (PY i2n2.toInt.toNat).toInt = y22.toInt := by rw [hf22]
        refine J_aload_n dX7_forgets_23 rfl ?_
        refine J_get jf_X7_28 dX7_forgets_24 hO_a0 hF_pz ?_
        refine J_iload_n dX7_forgets_27 rfl ?_
        refine Jz_iald (r := ((-2147483648), 2147483647)) jEq.rf dX7_forgets_28 ha_PZ rfl hv_PZ (by omega) (by omega) (fun y28 hf28 hl28 hh28 => ?_)
        dsimp only at hl28 hh28
        clear hl28 hh28
        have e28 : (PZ i2n2.toInt.toNat).toInt = y28.toInt := by rw [hf28]
        have hbq := hbk
        unfold jPf jbx at hbq
        dsimp only at hbq
        rw [e16, e22, e28] at hbq
        refine J_callS3 moX7_spot jw_ml_X7_177 jw_st_X7_spot dX7_forgets_29 (w_X7_spot_z (d - 1) _ y16 y22 y28 (by omega)   (by omega) (by omega) (by omega) (by omega) (by omega) (by omega)) (by omega) (Nat.zero_le _) (Nat.zero_le _) (Nat.le_of_ble_eq_true rfl) (fun r29 V29 h29 => ?_)
        obtain ⟨⟨y29, rfl, hl29, hh29, hP29_0⟩, hE29⟩ := h29
        have hE29 := hE29.symm
        subst hE29
        clear hl29 hh29
        have hz29 : jEq y29.toInt (jspot ((y16.toInt), (y22.toInt), (y28.toInt))) := hP29_0
        clear hP29_0
        have hsb := jspot_b (p := (y16.toInt, y22.toInt, y28.toInt)) hbq
        refine Jz_iconst 0 dX7_forgets_32 (by decide) (fun y32 he32 => ?_)
        refine Jz_zast (r := (0, 1)) hz29 he32 hW id dX7_forgets_33 hAF41n2 rfl rfl (by omega) (by omega) (by omega) (by omega) (fun _ h => vp_nar_b (by omega) (by omega)) (fun V33 G33 hW hx33 hA33 hp33 ho33 => ?_)
        obtain ⟨hN33, hv33⟩ := WT_rngI (r := (0, 1)) hW id rfl hA33
        clear hN33
        have he := he.trans (hx33.sub (jsub_of rfl))
        have ha0 := ha0.mono hx33.1
        have hb_px := hb_px.mono hx33.1
        have hb_py := hb_py.mono hx33.1
        have hb_pz := hb_pz.mono hx33.1
        have hb_se := hb_se.mono hx33.1
        have hO_a0 := hx33.2 _ _ hO_a0 (jnot_of rfl)
        have hK_a0 := hK_a0.mono hx33.1
        have ha_PX := hx33.2 _ _ ha_PX (jnot_of rfl)
        have ha_PY := hx33.2 _ _ ha_PY (jnot_of rfl)
        have ha_PZ := hx33.2 _ _ ha_PZ (jnot_of rfl)
        refine Jz_iinc 1 dX7_forgets_34 rfl rfl (by decide) jEq.rf (by decide) (by omega) (by omega) (fun y34 he34 => ?_)
        refine J_goto (tgt := 2) dX7_forgets_37 (by decide) ?_
        refine J.mask [true, true, true] ?_
        exact ih2 _ y34 G33 hW he ha0 hb_px hb_py hb_pz hb_se hO_a0 hK_a0 hA33 ha_PX ha_PY ha_PZ (by (try simp only [he34.eq, true_and, and_true]) <;> omega) (fun p hp => by
    rw [he34.eq]
    by_cases e : p = jPf PX PY PZ i2n2.toInt.toNat
    · subst e
      rw [show (G33 (jspot (jPf PX PY PZ i2n2.toInt.toNat)).toNat).toInt = 0 by (show (G33 (jspot ((PX i2n2.toInt.toNat).toInt, (PY i2n2.toInt.toNat).toInt, (PZ i2n2.toInt.toNat).toInt)).toNat).toInt = 0); rw [e16, e22, e28, hp33, he32.eq]]
      exact ⟨fun _ ⟨i, h0, h1, h2⟩ => hp4 i2n2.toInt.toNat i (by omega) h1 h2.symm, fun _ => rfl⟩
    · rw [ho33 _ (fun z => e (jspot_inj hp hbk (by rw [z]; (show (jspot (y16.toInt, y22.toInt, y28.toInt)).toNat = (jspot ((PX i2n2.toInt.toNat).toInt, (PY i2n2.toInt.toNat).toInt, (PZ i2n2.toInt.toNat).toInt)).toNat); rw [e16, e22, e28]))), hse p hp]
      exact not_congr ⟨fun ⟨i, h0, h1, h2⟩ => ⟨i, by by_cases q : (i : Int) = i2n2.toInt; (exact absurd (h2.trans (by rw [show i = i2n2.toInt.toNat by omega])) e); omega, h1, h2⟩, fun ⟨i, h0, h1, h2⟩ => ⟨i, by omega, h1, h2⟩⟩) (by (try simp only [he34.eq, true_and, and_true]) <;> omega)
  refine J.mask [true, true, true] ?_
  exact L2 _ _ y0 SE hW he ha0 hb_px hb_py hb_pz hb_se hO_a0 hK_a0 ha_SE ha_PX ha_PY ha_PZ (by (try simp only [he0.eq, true_and, and_true]) <;> omega) (fun p hp => (hp3 p hp).trans (not_congr ((jpl3_mem _).trans ⟨fun ⟨i, h1, h2⟩ => ⟨i, by rw [he0.eq]; omega, by omega, h2⟩, fun ⟨i, h0, h1, h2⟩ => ⟨i, by omega, h2⟩⟩))) (Nat.lt_succ_self _)
