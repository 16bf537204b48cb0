set_option maxRecDepth 100000 in
set_option maxHeartbeats 8000000 in
theorem w_X5_takeApart_z {tS : jTS} (d : Nat) (V0 : jH) (a0 : Nat) (x1 : Int32) (sn : Int32) (b : Int32) (dg : Nat) (DG : Nat → Int32) (hd : 1 ≤ d) (hW : WT V0) (ha0 : jis V0 (.inr 3) a0) (hf_sn : jfI V0 a0 3 1 sn) (hf_b : jfI V0 a0 3 2 b) (hr_dg : jfR V0 a0 3 5 dg) (ha_DG : V0 dg = some (.inl (11, 6, .inl DG))) (hp0 : 1 ≤ sn.toInt) (hp1 : sn.toInt ≤ 6) (hp2 : 3 ≤ b.toInt) (hp3 : b.toInt ≤ 6) (hp4 : 0 ≤ x1.toInt) : jTot tS mX5_takeApart d [.ref a0, .int x1] V0 0 0 (fun r V => (jPost [.inl 11] V0 rV) r V ∧ (∃ DG2 : Nat → Int32, V dg = some (.inl (11, 6, .inl DG2)) ∧ ∀ i : Nat, (i : Int) < sn.toInt → (DG2 i).toInt = jdg9 b.toInt.toNat sn.toInt.toNat x1.toInt.toNat i)) := by
  refine jTot.of_J [some (.ref a0), some (.int x1), none, none] moX5_takeApart (Nat.le_of_ble_eq_true rfl) rfl ?_
  have hrx1 := j_rng x1
  have he : jeff [.inl 11] V0 V0 := jeff.refl _ _
  obtain ⟨fs_a0, hO_a0, hK_a0⟩ := WT_obj hW id ha0
  have hF_sn := hf_sn.get hO_a0
  have hrsn : 0 ≤ sn.toInt ∧ sn.toInt ≤ 6 := jok_rngI hK_a0 rfl hF_sn
  have hF_b := hf_b.get hO_a0
  have hrb : (-2147483648) ≤ b.toInt ∧ b.toInt ≤ 2147483647 := jok_rngI hK_a0 rfl hF_b
  have hF_dg := hr_dg.get hO_a0
  obtain ⟨w_dg, hFq_dg, b_dg, hbq_dg, hb_dg⟩ := hK_a0.2 5 (.inr (some (.inl 11))) rfl
  cases hF_dg.symm.trans (hFq_dg.trans (congrArg some hbq_dg))
  obtain ⟨hN_DG, hv_DG⟩ := WT_rngI (r := ((-2147483648), 2147483647)) hW id rfl ha_DG
  clear hN_DG
  refine J_aload_n dX5_takeApart_0 rfl ?_
  refine J_get jf_X5_40 dX5_takeApart_1 hO_a0 hF_b ?_
  refine Jz_iconst 1 dX5_takeApart_4 (by decide) (fun y4 he4 => ?_)
  refine Jz_icmp_ge (tgt := 9) jEq.rf he4 dX5_takeApart_5 (by decide) (fun c5 => ?_) (fun c5 => (show False by omega).elim)
  refine J_iload_n dX5_takeApart_9 rfl ?_
  refine J_istore_n dX5_takeApart_10 rfl (by decide) ?_
  refine J_aload_n dX5_takeApart_11 rfl ?_
  refine J_get jf_X5_31 dX5_takeApart_12 hO_a0 hF_sn ?_
  refine Jz_iconst 1 dX5_takeApart_15 (by decide) (fun y15 he15 => ?_)
  refine Jz_isub jEq.rf he15 dX5_takeApart_16 (by omega) (by omega) (fun y16 he16 => ?_)
  refine J_istore_n dX5_takeApart_17 rfl (by decide) ?_
  have L18 : ∀ (N : Nat) (V : jH) (i2n18 : Int32) (i3n18 : Int32) (F11n18 : Nat → Int32), WT V → jeff [.inl 11] V0 V → (jis V (.inr 3) a0) → (jis V (.inl 11) dg) → (V a0 = some (.inr (3, fs_a0))) → (jokO V (jFs 3) fs_a0) → (V dg = some (.inl (11, 6, .inl F11n18))) → (-1 ≤ i3n18.toInt ∧ i3n18.toInt ≤ sn.toInt - 1) → (i2n18.toInt = ((x1.toInt.toNat / b.toInt.toNat ^ (sn.toInt - 1 - i3n18.toInt).toNat : Nat) : Int)) → (∀ i : Nat, i3n18.toInt < (i : Int) → (i : Int) < sn.toInt → (F11n18 i).toInt = jdg9 b.toInt.toNat sn.toInt.toNat x1.toInt.toNat i) → (i3n18.toInt + 2).toNat < N → J tS mX5_takeApart d 18 [some (.ref a0), some (.int x1), some (.int i2n18), some (.int i3n18)] [] V 0 0 (fun r V => (jPost [.inl 11] V0 rV) r V ∧ (∃ DG2 : Nat → Int32, V dg = some (.inl (11, 6, .inl DG2)) ∧ ∀ i : Nat, (i : Int) < sn.toInt → (DG2 i).toInt = jdg9 b.toInt.toNat sn.toInt.toNat x1.toInt.toNat i)) := by
    intro N
    induction N with
    | zero => intro V i2n18 i3n18 F11n18 hW he ha0 hb_dg hO_a0 hK_a0 hAF11n18 hi3 hlf hrw hm; exact absurd hm (Nat.not_lt_zero _)
    | succ N ih =>
      intro V i2n18 i3n18 F11n18 hW he ha0 hb_dg hO_a0 hK_a0 hAF11n18 hi3 hlf hrw hm
      have ih18 := ih
      have hri3 := j_rng i3n18
      obtain ⟨hNF11n18, hvF11n18⟩ := WT_rngI (r := ((-2147483648), 2147483647)) hW id rfl hAF11n18
      clear hNF11n18
      refine J_iload_n dX5_takeApart_18 rfl ?_
      refine Jz_if_lt (tgt := 49) jEq.rf dX5_takeApart_19 (by decide) (fun c19 => ?_) (fun c19 => ?_)
      · exact J_ret (r := none) dX5_takeApart_49 ⟨rfl, rfl⟩ (⟨⟨hW, he, rfl⟩, ⟨F11n18, hAF11n18, fun i hi => hrw i (by omega) hi⟩⟩)
      · have hl0 : 0 ≤ i2n18.toInt := by rw [hlf]; exact Int.natCast_nonneg _
        refine J_aload_n dX5_takeApart_22 rfl ?_
        refine J_get jf_X5_9 dX5_takeApart_23 hO_a0 hF_dg ?_
        refine J_iload_n dX5_takeApart_26 rfl ?_
        refine J_iload_n dX5_takeApart_27 rfl ?_
        refine J_aload_n dX5_takeApart_28 rfl ?_
        refine J_get jf_X5_40 dX5_takeApart_29 hO_a0 hF_b ?_
        refine Jz_iremC jEq.rf jEq.rf dX5_takeApart_32 (by omega) (by omega) (fun y32 he32 => ?_)
        refine J_callSN3 moX6_put (host := "WalkGrounds") (List.mem_of_getElem? (i := 6) rfl) jw_st_X6_put dX5_takeApart_33 (w_X6_put_z (d - 1) _ dg i3n18 y32 hW hAF11n18 (WT_rngI (r := (-2147483648, 2147483647)) hW id rfl hAF11n18).1 rfl rfl (by omega)) (by omega) (Nat.zero_le _) (Nat.zero_le _) (Nat.le_of_ble_eq_true rfl) (fun r33 V33 h33 => ?_)
        obtain ⟨rfl, hW, hx33, hB33, G33, hA33, hp33, ho33⟩ := h33
        obtain ⟨hN33, hv33⟩ := WT_rngI (r := (-2147483648, 2147483647)) hW id rfl hA33
        clear hN33
        have he := he.trans (hx33.sub (jsub_of rfl))
        have ha0 := ha0.mono hx33.1
        have hb_dg := hb_dg.mono hx33.1
        have hO_a0 := hx33.2 _ _ hO_a0 (jnot_of rfl)
        have hK_a0 := hK_a0.mono hx33.1
        · refine J_iload_n dX5_takeApart_36 rfl ?_
          refine J_aload_n dX5_takeApart_37 rfl ?_
          refine J_get jf_X5_40 dX5_takeApart_38 hO_a0 hF_b ?_
          refine Jz_idivC jEq.rf jEq.rf dX5_takeApart_41 (by omega) (by omega) (fun y41 he41 => ?_)
          refine J_istore_n dX5_takeApart_42 rfl (by decide) ?_
          refine Jz_iinc (-1) dX5_takeApart_43 rfl rfl (by decide) jEq.rf (by decide) (by omega) (by omega) (fun y43 he43 => ?_)
          refine J_goto (tgt := 18) dX5_takeApart_46 (by decide) ?_
          refine J.mask [true, true, true, true] ?_
          exact ih18 _ y41 y43 G33 hW he ha0 hb_dg hO_a0 hK_a0 hA33 (by (try simp only [he41.eq, he43.eq, true_and, and_true]) <;> omega) (by rw [he41.eq, he43.eq, hlf, show (sn.toInt - 1 - (i3n18.toInt + (-1))).toNat = (sn.toInt - 1 - i3n18.toInt).toNat + 1 by omega]; exact jdv_step (by omega)) (fun i h1 h2 => by rw [he43.eq] at h1; by_cases c : (i : Int) = i3n18.toInt; (have e : i = i3n18.toInt.toNat := by omega); subst e; rw [hp33 (by omega), he32.eq, hlf]; exact jdv_dig (by omega) (by omega); rw [ho33 i (by omega)]; exact hrw i (by omega) h2) (by (try simp only [he41.eq, he43.eq, true_and, and_true]) <;> omega)
  refine J.mask [true, true, true, true] ?_
  exact L18 _ _ x1 y16 DG hW he ha0 hb_dg hO_a0 hK_a0 ha_DG (by (try simp only [he16.eq, true_and, and_true]) <;> omega) (by rw [he16.eq, show (sn.toInt - 1 - (sn.toInt - 1)).toNat = 0 by omega, Nat.pow_zero, Nat.div_one]; exact (Int.toNat_of_nonneg (by omega)).symm) (fun i h1 h2 => by rw [he16.eq] at h1; omega) (Nat.lt_succ_self _)
