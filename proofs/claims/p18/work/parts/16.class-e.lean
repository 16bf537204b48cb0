set_option maxRecDepth 100000 in
set_option maxHeartbeats 8000000 in
theorem w_X1_keepLesser_z {tS : jTS} (d : Nat) (V0 : jH) {ln : Nat} (a0 : Nat) (x1 : Int32) (x2 : Int32) (a3 : Nat) (M : Int32) (g : Int32) (n : Int32) (s : Nat) (xx : Nat) (yy : Nat) (zz : Nat) (S : Nat → Int32) (X : Nat → Int32) (Y : Nat → Int32) (Z : Nat → Int32) (B : Nat → Int32) (hd : 4 ≤ d) (hW : WT V0) (ha0 : jis V0 (.inr 1) a0) (hl2 : 0 ≤ x2.toInt) (hh2 : x2.toInt ≤ 1) (ha3 : jis V0 (.inl 7) a3) (hf_M : jfI V0 a0 1 0 M) (hf_g : jfI V0 a0 1 5 g) (hf_n : jfI V0 a0 1 6 n) (hr_s : jfR V0 a0 1 1 s) (hr_xx : jfR V0 a0 1 2 xx) (hr_yy : jfR V0 a0 1 3 yy) (hr_zz : jfR V0 a0 1 4 zz) (ha_S : V0 s = some (.inl (6, ln, .inl S))) (ha_X : V0 xx = some (.inl (34, ln + 1, .inl X))) (ha_Y : V0 yy = some (.inl (35, ln + 1, .inl Y))) (ha_Z : V0 zz = some (.inl (36, ln + 1, .inl Z))) (ha_B : V0 a3 = some (.inl (7, 60, .inl B))) (hp0 : M.toInt = (ln : Int)) (hp1 : (ln : Int) ≤ 120) (hp2 : n.toInt ≤ M.toInt) (hp3 : 0 ≤ g.toInt) (hp4 : g.toInt ≤ 3) (hp5 : 0 ≤ x1.toInt) (hp6 : x1.toInt < jtur g.toInt) (hp7 : ∀ j : Nat, (j : Int) < n.toInt → 0 ≤ (S j).toInt ∧ (S j).toInt < jdir g.toInt) (hp8 : n.toInt ≤ 60) (hp9 : ∀ j : Nat, (j : Int) < n.toInt → 0 ≤ (B j).toInt ∧ (B j).toInt < jdir g.toInt) : jTot tS mX1_keepLesser d [.ref a0, .int x1, .int x2, .ref a3] V0 0 0 (fun r V => (jPost [.inl 7] V0 rV) r V ∧ (∃ B2 : Nat → Int32, V a3 = some (.inl (7, 60, .inl B2)) ∧ (jlx n.toInt.toNat (jim g.toInt (fun q => (S q).toInt) n.toInt.toNat x1.toInt (decide (x2.toInt = 1))) (fun q => (B q).toInt) → ∀ j : Nat, (j : Int) < n.toInt → (B2 j).toInt = (jim g.toInt (fun q => (S q).toInt) n.toInt.toNat x1.toInt (decide (x2.toInt = 1)) j)) ∧ (¬ jlx n.toInt.toNat (jim g.toInt (fun q => (S q).toInt) n.toInt.toNat x1.toInt (decide (x2.toInt = 1))) (fun q => (B q).toInt) → B2 = B)) ∧ jfp [a3] V0 V) := by
  refine jTot.of_J [some (.ref a0), some (.int x1), some (.int x2), some (.ref a3), none] moX1_keepLesser (Nat.le_of_ble_eq_true rfl) rfl ?_
  have hrx1 := j_rng x1
  have he : jeff [.inl 7] V0 V0 := jeff.refl _ _
  have hfp : jfp [a3] V0 V0 := jfp.rf
  obtain ⟨fs_a0, hO_a0, hK_a0⟩ := WT_obj hW id ha0
  have hF_M := hf_M.get hO_a0
  have hrM : 0 ≤ M.toInt ∧ M.toInt ≤ 120 := jok_rngI hK_a0 rfl hF_M
  have hF_g := hf_g.get hO_a0
  have hrg : (-2147483648) ≤ g.toInt ∧ g.toInt ≤ 2147483647 := jok_rngI hK_a0 rfl hF_g
  have hF_n := hf_n.get hO_a0
  have hrn : 0 ≤ n.toInt ∧ n.toInt ≤ 120 := jok_rngI hK_a0 rfl hF_n
  have hF_s := hr_s.get hO_a0
  obtain ⟨w_s, hFq_s, b_s, hbq_s, hb_s⟩ := hK_a0.2 1 (.inr (some (.inl 6))) rfl
  cases hF_s.symm.trans (hFq_s.trans (congrArg some hbq_s))
  have hF_xx := hr_xx.get hO_a0
  obtain ⟨w_xx, hFq_xx, b_xx, hbq_xx, hb_xx⟩ := hK_a0.2 2 (.inr (some (.inl 34))) rfl
  cases hF_xx.symm.trans (hFq_xx.trans (congrArg some hbq_xx))
  have hF_yy := hr_yy.get hO_a0
  obtain ⟨w_yy, hFq_yy, b_yy, hbq_yy, hb_yy⟩ := hK_a0.2 3 (.inr (some (.inl 35))) rfl
  cases hF_yy.symm.trans (hFq_yy.trans (congrArg some hbq_yy))
  have hF_zz := hr_zz.get hO_a0
  obtain ⟨w_zz, hFq_zz, b_zz, hbq_zz, hb_zz⟩ := hK_a0.2 4 (.inr (some (.inl 36))) rfl
  cases hF_zz.symm.trans (hFq_zz.trans (congrArg some hbq_zz))
  obtain ⟨hN_S, hv_S⟩ := WT_rngI (r := ((-2147483648), 2147483647)) hW id rfl ha_S
  clear hN_S
  obtain ⟨hN_X, hv_X⟩ := WT_rngI (r := ((-2147483648), 2147483647)) hW id rfl ha_X
  clear hN_X
  obtain ⟨hN_Y, hv_Y⟩ := WT_rngI (r := ((-2147483648), 2147483647)) hW id rfl ha_Y
  clear hN_Y
  obtain ⟨hN_Z, hv_Z⟩ := WT_rngI (r := ((-2147483648), 2147483647)) hW id rfl ha_Z
  clear hN_Z
  obtain ⟨hN_B, hv_B⟩ := WT_rngI (r := ((-2147483648), 2147483647)) hW id rfl ha_B
  clear hN_B
  refine J_aload_n dX1_keepLesser_0 rfl ?_
  refine J_iload_n dX1_keepLesser_1 rfl ?_
  refine J_iload_n dX1_keepLesser_2 rfl ?_
  refine J_aload_n dX1_keepLesser_3 rfl ?_
  refine J_callS4 moX1_isBelow jw_ml_X1_37 jw_st_X1_isBelow dX1_keepLesser_4 (w_X1_isBelow_z (d - 1) _ a0 x1 x2 a3 M g n s xx yy zz S X Y Z B (by omega) hW  ha0 (by omega) (by omega) ha3 ⟨_, hO_a0, hF_M⟩ ⟨_, hO_a0, hF_g⟩ ⟨_, hO_a0, hF_n⟩ ⟨_, hO_a0, hF_s⟩ ⟨_, hO_a0, hF_xx⟩ ⟨_, hO_a0, hF_yy⟩ ⟨_, hO_a0, hF_zz⟩ ha_S ha_X ha_Y ha_Z ha_B (by omega) (by omega) (by omega) (by omega) (by omega) (by omega) (by omega) (by omega) (by omega) (by omega)) (by omega) (Nat.zero_le _) (Nat.zero_le _) (Nat.le_of_ble_eq_true rfl) (fun r4 V4 h4 => ?_)
  obtain ⟨⟨y4, rfl, hl4, hh4, hP4_0⟩, hE4⟩ := h4
  have hE4 := hE4.symm
  subst hE4
  refine Jz_if_ne (tgt := 11) jEq.rf dX1_keepLesser_7 (by decide) (fun c7 => ?_) (fun c7 => ?_)
  · refine Jz_iconst 0 dX1_keepLesser_11 (by decide) (fun y11 he11 => ?_)
    refine J_istore dX1_keepLesser_12 rfl (by decide) ?_
    have L14 : ∀ (N : Nat) (V : jH) (i4n14 : Int32) (F7n14 : Nat → Int32), WT V → jeff [.inl 7] V0 V → (jis V (.inr 1) a0) → (jis V (.inl 7) a3) → (jis V (.inl 6) s) → (jis V (.inl 34) xx) → (jis V (.inl 35) yy) → (jis V (.inl 36) zz) → (jfp [a3] V0 V) → (V a0 = some (.inr (1, fs_a0))) → (jokO V (jFs 1) fs_a0) → (V a3 = some (.inl (7, 60, .inl F7n14))) → (V s = some (.inl (6, ln, .inl S))) → (V xx = some (.inl (34, ln + 1, .inl X))) → (V yy = some (.inl (35, ln + 1, .inl Y))) → (V zz = some (.inl (36, ln + 1, .inl Z))) → (0 ≤ i4n14.toInt ∧ i4n14.toInt ≤ n.toInt) → (∀ j : Nat, (j : Int) < i4n14.toInt → (F7n14 j).toInt = (jim g.toInt (fun q => (S q).toInt) n.toInt.toNat x1.toInt (decide (x2.toInt = 1)) j)) → (300 - i4n14.toInt).toNat < N → J tS mX1_keepLesser d 14 [some (.ref a0), some (.int x1), some (.int x2), some (.ref a3), some (.int i4n14)] [] V 0 0 (fun r V => (jPost [.inl 7] V0 rV) r V ∧ (∃ B2 : Nat → Int32, V a3 = some (.inl (7, 60, .inl B2)) ∧ (jlx n.toInt.toNat (jim g.toInt (fun q => (S q).toInt) n.toInt.toNat x1.toInt (decide (x2.toInt = 1))) (fun q => (B q).toInt) → ∀ j : Nat, (j : Int) < n.toInt → (B2 j).toInt = (jim g.toInt (fun q => (S q).toInt) n.toInt.toNat x1.toInt (decide (x2.toInt = 1)) j)) ∧ (¬ jlx n.toInt.toNat (jim g.toInt (fun q => (S q).toInt) n.toInt.toNat x1.toInt (decide (x2.toInt = 1))) (fun q => (B q).toInt) → B2 = B)) ∧ jfp [a3] V0 V) := by
      intro N
      induction N with
      | zero => intro V i4n14 F7n14 hW he ha0 ha3 hb_s hb_xx hb_yy hb_zz hfp hO_a0 hK_a0 hAF7n14 ha_S ha_X ha_Y ha_Z hi4 hcp hm; exact absurd hm (Nat.not_lt_zero _)
      | succ N ih =>
        intro V i4n14 F7n14 hW he ha0 ha3 hb_s hb_xx hb_yy hb_zz hfp hO_a0 hK_a0 hAF7n14 ha_S ha_X ha_Y ha_Z hi4 hcp hm
        have ih14 := ih
        have hri4 := j_rng i4n14
        obtain ⟨hNF7n14, hvF7n14⟩ := WT_rngI (r := ((-2147483648), 2147483647)) hW id rfl hAF7n14
        clear hNF7n14
        refine J_iload dX1_keepLesser_14 rfl ?_
        refine J_aload_n dX1_keepLesser_16 rfl ?_
        refine J_get jf_X1_9 dX1_keepLesser_17 hO_a0 hF_n ?_
        refine Jz_icmp_ge (tgt := 43) jEq.rf jEq.rf dX1_keepLesser_20 (by decide) (fun c20 => ?_) (fun c20 => ?_)
        · exact J_ret (r := none) dX1_keepLesser_43 ⟨rfl, rfl⟩ (⟨⟨hW, he, rfl⟩, ⟨F7n14, hAF7n14, fun _ j hj => hcp j (by omega), fun z => absurd (hP4_0.elim (fun q => q.2) (fun q => absurd q.1 (by omega))) z⟩, hfp⟩)
        · refine J_aload_n dX1_keepLesser_23 rfl ?_
          refine J_iload dX1_keepLesser_24 rfl ?_
          refine J_aload_n dX1_keepLesser_26 rfl ?_
          refine J_iload_n dX1_keepLesser_27 rfl ?_
          refine J_iload_n dX1_keepLesser_28 rfl ?_
          refine J_iload dX1_keepLesser_29 rfl ?_
          refine J_callS4 moX1_turnedStep jw_ml_X1_41 jw_st_X1_turnedStep dX1_keepLesser_31 (w_X1_turnedStep_z (d - 1) _ a0 x1 x2 i4n14 M g n s xx yy zz S X Y Z (by omega) hW  ha0 (by omega) (by omega) ⟨_, hO_a0, hF_M⟩ ⟨_, hO_a0, hF_g⟩ ⟨_, hO_a0, hF_n⟩ ⟨_, hO_a0, hF_s⟩ ⟨_, hO_a0, hF_xx⟩ ⟨_, hO_a0, hF_yy⟩ ⟨_, hO_a0, hF_zz⟩ ha_S ha_X ha_Y ha_Z (by omega) (by omega) (by omega) (by omega) (by omega) (by omega) (by omega) (by omega) (by omega) (by omega)) (by omega) (Nat.zero_le _) (Nat.zero_le _) (Nat.le_of_ble_eq_true rfl) (fun r31 V31 h31 => ?_)
          obtain ⟨⟨y31, rfl, hl31, hh31, hP31_0⟩, hE31⟩ := h31
          have hE31 := hE31.symm
          subst hE31
          clear hl31 hh31
          have hz31 : jEq y31.toInt ((jim (g.toInt) (fun q => (S q).toInt) (n.toInt).toNat (x1.toInt) (decide ((x2.toInt) = 1)) (i4n14.toInt).toNat)) := hP31_0
          clear hP31_0
          refine J_callSN3 moX6_put (host := "WalkGrounds") (List.mem_of_getElem? (i := 2) rfl) jw_st_X6_put dX1_keepLesser_34 (w_X6_put_z (d - 1) _ a3 i4n14 y31 hW hAF7n14 (WT_rngI (r := (-2147483648, 2147483647)) hW id rfl hAF7n14).1 rfl rfl (by omega)) (by omega) (Nat.zero_le _) (Nat.zero_le _) (Nat.le_of_ble_eq_true rfl) (fun r34 V34 h34 => ?_)
          obtain ⟨rfl, hW, hx34, hB34, G34, hA34, hp34, ho34⟩ := h34
          obtain ⟨hN34, hv34⟩ := WT_rngI (r := (-2147483648, 2147483647)) hW id rfl hA34
          clear hN34
          have he := he.trans (hx34.sub (jsub_of rfl))
          have hfp := hfp.trans (jfp.one hB34 List.mem_cons_self)
          have ha0 := ha0.mono hx34.1
          have ha3 := ha3.mono hx34.1
          have hb_s := hb_s.mono hx34.1
          have hb_xx := hb_xx.mono hx34.1
          have hb_yy := hb_yy.mono hx34.1
          have hb_zz := hb_zz.mono hx34.1
          have hO_a0 := hx34.2 _ _ hO_a0 (jnot_of rfl)
          have hK_a0 := hK_a0.mono hx34.1
          have ha_S := hx34.2 _ _ ha_S (jnot_of rfl)
          have ha_X := hx34.2 _ _ ha_X (jnot_of rfl)
          have ha_Y := hx34.2 _ _ ha_Y (jnot_of rfl)
          have ha_Z := hx34.2 _ _ ha_Z (jnot_of rfl)
          · refine Jz_iinc 1 dX1_keepLesser_37 rfl rfl (by decide) jEq.rf (by decide) (by omega) (by omega) (fun y37 he37 => ?_)
            refine J_goto (tgt := 14) dX1_keepLesser_40 (by decide) ?_
            refine J.mask [true, true, true, true, true] ?_
            exact ih14 _ y37 G34 hW he ha0 ha3 hb_s hb_xx hb_yy hb_zz hfp hO_a0 hK_a0 hA34 ha_S ha_X ha_Y ha_Z (by (try simp only [he37.eq, true_and, and_true]) <;> omega) (fun j hj => by rw [he37.eq] at hj; by_cases h9 : (j : Int) = i4n14.toInt; (have e : j = i4n14.toInt.toNat := by omega); subst e; rw [hp34 (by omega), hz31.eq]; rw [ho34 j (by omega)]; exact hcp j (by omega)) (by (try simp only [he37.eq, true_and, and_true]) <;> omega)
    refine J.mask [true, true, true, true, true] ?_
    exact L14 _ _ y11 B hW he ha0 ha3 hb_s hb_xx hb_yy hb_zz hfp hO_a0 hK_a0 ha_B ha_S ha_X ha_Y ha_Z (by (try simp only [he11.eq, true_and, and_true]) <;> omega) (fun j hj => by rw [he11.eq] at hj; omega) (Nat.lt_succ_self _)
  · exact J_ret (r := none) dX1_keepLesser_10 ⟨rfl, rfl⟩ (⟨⟨hW, he, rfl⟩, ⟨B, ha_B, fun z => absurd z (hP4_0.elim (fun q => absurd q.1 (by omega)) (fun q => q.2)), fun _ => rfl⟩, hfp⟩)
set_option maxRecDepth 100000 in
set_option maxHeartbeats 8000000 in
theorem w_X1_writeForm_z {tS : jTS} (d : Nat) (V0 : jH) {ln : Nat} (a0 : Nat) (a1 : Nat) (M : Int32) (g : Int32) (n : Int32) (s : Nat) (xx : Nat) (yy : Nat) (zz : Nat) (S : Nat → Int32) (X : Nat → Int32) (Y : Nat → Int32) (Z : Nat → Int32) (B : Nat → Int32) (hd : 5 ≤ d) (hW : WT V0) (ha0 : jis V0 (.inr 1) a0) (ha1 : jis V0 (.inl 7) a1) (hf_M : jfI V0 a0 1 0 M) (hf_g : jfI V0 a0 1 5 g) (hf_n : jfI V0 a0 1 6 n) (hr_s : jfR V0 a0 1 1 s) (hr_xx : jfR V0 a0 1 2 xx) (hr_yy : jfR V0 a0 1 3 yy) (hr_zz : jfR V0 a0 1 4 zz) (ha_S : V0 s = some (.inl (6, ln, .inl S))) (ha_X : V0 xx = some (.inl (34, ln + 1, .inl X))) (ha_Y : V0 yy = some (.inl (35, ln + 1, .inl Y))) (ha_Z : V0 zz = some (.inl (36, ln + 1, .inl Z))) (ha_B : V0 a1 = some (.inl (7, 60, .inl B))) (hp0 : M.toInt = (ln : Int)) (hp1 : (ln : Int) ≤ 120) (hp2 : n.toInt ≤ M.toInt) (hp3 : 0 ≤ g.toInt) (hp4 : g.toInt ≤ 3) (hp5 : ∀ j : Nat, (j : Int) < n.toInt → 0 ≤ (S j).toInt ∧ (S j).toInt < jdir g.toInt) (hp6 : n.toInt ≤ 60) : jTot tS mX1_writeForm d [.ref a0, .ref a1] V0 0 0 (fun r V => (jPost [.inl 7] V0 rV) r V ∧ (∃ B2 : Nat → Int32, V a1 = some (.inl (7, 60, .inl B2)) ∧ ∀ j : Nat, j < n.toInt.toNat → (B2 j).toInt = jbs g.toInt (fun q => (S q).toInt) n.toInt.toNat (2 * jtur g.toInt).toNat j) ∧ jfp [a1] V0 V) := by
  refine jTot.of_J [some (.ref a0), some (.ref a1), none] moX1_writeForm (Nat.le_of_ble_eq_true rfl) rfl ?_
  have he : jeff [.inl 7] V0 V0 := jeff.refl _ _
  have hfp : jfp [a1] V0 V0 := jfp.rf
  obtain ⟨fs_a0, hO_a0, hK_a0⟩ := WT_obj hW id ha0
  have hF_M := hf_M.get hO_a0
  have hrM : 0 ≤ M.toInt ∧ M.toInt ≤ 120 := jok_rngI hK_a0 rfl hF_M
  have hF_g := hf_g.get hO_a0
  have hrg : (-2147483648) ≤ g.toInt ∧ g.toInt ≤ 2147483647 := jok_rngI hK_a0 rfl hF_g
  have hF_n := hf_n.get hO_a0
  have hrn : 0 ≤ n.toInt ∧ n.toInt ≤ 120 := jok_rngI hK_a0 rfl hF_n
  have hF_s := hr_s.get hO_a0
  obtain ⟨w_s, hFq_s, b_s, hbq_s, hb_s⟩ := hK_a0.2 1 (.inr (some (.inl 6))) rfl
  cases hF_s.symm.trans (hFq_s.trans (congrArg some hbq_s))
  have hF_xx := hr_xx.get hO_a0
  obtain ⟨w_xx, hFq_xx, b_xx, hbq_xx, hb_xx⟩ := hK_a0.2 2 (.inr (some (.inl 34))) rfl
  cases hF_xx.symm.trans (hFq_xx.trans (congrArg some hbq_xx))
  have hF_yy := hr_yy.get hO_a0
  obtain ⟨w_yy, hFq_yy, b_yy, hbq_yy, hb_yy⟩ := hK_a0.2 3 (.inr (some (.inl 35))) rfl
  cases hF_yy.symm.trans (hFq_yy.trans (congrArg some hbq_yy))
  have hF_zz := hr_zz.get hO_a0
  obtain ⟨w_zz, hFq_zz, b_zz, hbq_zz, hb_zz⟩ := hK_a0.2 4 (.inr (some (.inl 36))) rfl
  cases hF_zz.symm.trans (hFq_zz.trans (congrArg some hbq_zz))
  obtain ⟨hN_S, hv_S⟩ := WT_rngI (r := ((-2147483648), 2147483647)) hW id rfl ha_S
  clear hN_S
  obtain ⟨hN_X, hv_X⟩ := WT_rngI (r := ((-2147483648), 2147483647)) hW id rfl ha_X
  clear hN_X
  obtain ⟨hN_Y, hv_Y⟩ := WT_rngI (r := ((-2147483648), 2147483647)) hW id rfl ha_Y
  clear hN_Y
  obtain ⟨hN_Z, hv_Z⟩ := WT_rngI (r := ((-2147483648), 2147483647)) hW id rfl ha_Z
  clear hN_Z
  obtain ⟨hN_B, hv_B⟩ := WT_rngI (r := ((-2147483648), 2147483647)) hW id rfl ha_B
  clear hN_B
  have htc := jtur_cases g.toInt
  have hjd := jdir_cases g.toInt
  refine Jz_iconst 0 dX1_writeForm_0 (by decide) (fun y0 he0 => ?_)
  refine J_istore_n dX1_writeForm_1 rfl (by decide) ?_
  have L2 : ∀ (N : Nat) (V : jH) (i2n2 : Int32) (F7n2 : Nat → Int32), WT V → jeff [.inl 7] V0 V → (jis V (.inr 1) a0) → (jis V (.inl 7) a1) → (jis V (.inl 6) s) → (jis V (.inl 34) xx) → (jis V (.inl 35) yy) → (jis V (.inl 36) zz) → (jfp [a1] V0 V) → (V a0 = some (.inr (1, fs_a0))) → (jokO V (jFs 1) fs_a0) → (V a1 = some (.inl (7, 60, .inl F7n2))) → (V s = some (.inl (6, ln, .inl S))) → (V xx = some (.inl (34, ln + 1, .inl X))) → (V yy = some (.inl (35, ln + 1, .inl Y))) → (V zz = some (.inl (36, ln + 1, .inl Z))) → (0 ≤ i2n2.toInt ∧ i2n2.toInt ≤ n.toInt) → (∀ j : Nat, (j : Int) < i2n2.toInt → (F7n2 j).toInt = (S j).toInt) → (300 - i2n2.toInt).toNat < N → J tS mX1_writeForm d 2 [some (.ref a0), some (.ref a1), some (.int i2n2)] [] V 0 0 (fun r V => (jPost [.inl 7] V0 rV) r V ∧ (∃ B2 : Nat → Int32, V a1 = some (.inl (7, 60, .inl B2)) ∧ ∀ j : Nat, j < n.toInt.toNat → (B2 j).toInt = jbs g.toInt (fun q => (S q).toInt) n.toInt.toNat (2 * jtur g.toInt).toNat j) ∧ jfp [a1] V0 V) := by
    intro N
    induction N with
    | zero => intro V i2n2 F7n2 hW he ha0 ha1 hb_s hb_xx hb_yy hb_zz hfp hO_a0 hK_a0 hAF7n2 ha_S ha_X ha_Y ha_Z hi2 hc hm; exact absurd hm (Nat.not_lt_zero _)
    | succ N ih =>
      intro V i2n2 F7n2 hW he ha0 ha1 hb_s hb_xx hb_yy hb_zz hfp hO_a0 hK_a0 hAF7n2 ha_S ha_X ha_Y ha_Z hi2 hc hm
      have ih2 := ih
      have hri2 := j_rng i2n2
      obtain ⟨hNF7n2, hvF7n2⟩ := WT_rngI (r := ((-2147483648), 2147483647)) hW id rfl hAF7n2
      clear hNF7n2
      refine J_iload_n dX1_writeForm_2 rfl ?_
      refine J_aload_n dX1_writeForm_3 rfl ?_
      refine J_get jf_X1_9 dX1_writeForm_4 hO_a0 hF_n ?_
      refine Jz_icmp_ge (tgt := 26) jEq.rf jEq.rf dX1_writeForm_7 (by decide) (fun c7 => ?_) (fun c7 => ?_)
      · refine Jz_iconst 0 dX1_writeForm_26 (by decide) (fun y26 he26 => ?_)
        refine J_istore_n dX1_writeForm_27 rfl (by decide) ?_
        have L28 : ∀ (N : Nat) (V : jH) (i2n28 : Int32) (F7n28 : Nat → Int32), WT V → jeff [.inl 7] V0 V → (jis V (.inr 1) a0) → (jis V (.inl 7) a1) → (jis V (.inl 6) s) → (jis V (.inl 34) xx) → (jis V (.inl 35) yy) → (jis V (.inl 36) zz) → (jfp [a1] V0 V) → (V a0 = some (.inr (1, fs_a0))) → (jokO V (jFs 1) fs_a0) → (V a1 = some (.inl (7, 60, .inl F7n28))) → (V s = some (.inl (6, ln, .inl S))) → (V xx = some (.inl (34, ln + 1, .inl X))) → (V yy = some (.inl (35, ln + 1, .inl Y))) → (V zz = some (.inl (36, ln + 1, .inl Z))) → (0 ≤ i2n28.toInt ∧ i2n28.toInt ≤ jtur g.toInt) → (∀ j : Nat, j < n.toInt.toNat → (F7n28 j).toInt = jbs g.toInt (fun q => (S q).toInt) n.toInt.toNat (2 * i2n28.toInt.toNat) j) → (300 - i2n28.toInt).toNat < N → J tS mX1_writeForm d 28 [some (.ref a0), some (.ref a1), some (.int i2n28)] [] V 0 0 (fun r V => (jPost [.inl 7] V0 rV) r V ∧ (∃ B2 : Nat → Int32, V a1 = some (.inl (7, 60, .inl B2)) ∧ ∀ j : Nat, j < n.toInt.toNat → (B2 j).toInt = jbs g.toInt (fun q => (S q).toInt) n.toInt.toNat (2 * jtur g.toInt).toNat j) ∧ jfp [a1] V0 V) := by
          intro N
          induction N with
          | zero => intro V i2n28 F7n28 hW he ha0 ha1 hb_s hb_xx hb_yy hb_zz hfp hO_a0 hK_a0 hAF7n28 ha_S ha_X ha_Y ha_Z hi2b hb hm; exact absurd hm (Nat.not_lt_zero _)
          | succ N ih =>
            intro V i2n28 F7n28 hW he ha0 ha1 hb_s hb_xx hb_yy hb_zz hfp hO_a0 hK_a0 hAF7n28 ha_S ha_X ha_Y ha_Z hi2b hb hm
            have ih28 := ih
            have hri2 := j_rng i2n28
            obtain ⟨hNF7n28, hvF7n28⟩ := WT_rngI (r := ((-2147483648), 2147483647)) hW id rfl hAF7n28
            clear hNF7n28
            refine J_iload_n dX1_writeForm_28 rfl ?_
            refine J_aload_n dX1_writeForm_29 rfl ?_
            refine J_get jf_X1_23 dX1_writeForm_30 hO_a0 hF_g ?_
            refine J_callS1 moX0_turns jw_ml_X1_26 jw_st_X0_turns dX1_writeForm_33 (w_X0_turns_z (d - 1) _ g (by omega)   (by omega) (by omega)) (by omega) (Nat.zero_le _) (Nat.zero_le _) (Nat.le_of_ble_eq_true rfl) (fun r33 V33 h33 => ?_)
            obtain ⟨⟨y33, rfl, hl33, hh33, hP33_0⟩, hE33⟩ := h33
            have hE33 := hE33.symm
            subst hE33
            clear hl33 hh33
            have hz33 : jEq y33.toInt (jtur (g.toInt)) := hP33_0
            clear hP33_0
            refine Jz_icmp_ge (tgt := 59) jEq.rf hz33 dX1_writeForm_36 (by decide) (fun c36 => ?_) (fun c36 => ?_)
            · exact J_ret (r := none) dX1_writeForm_59 ⟨rfl, rfl⟩ (⟨⟨hW, he, rfl⟩, ⟨F7n28, hAF7n28, by rw [show (2 * jtur g.toInt).toNat = 2 * i2n28.toInt.toNat by omega]; exact hb⟩, hfp⟩)
            · refine J_aload_n dX1_writeForm_39 rfl ?_
              refine J_iload_n dX1_writeForm_40 rfl ?_
              refine Jz_iconst 0 dX1_writeForm_41 (by decide) (fun y41 he41 => ?_)
              refine J_aload_n dX1_writeForm_42 rfl ?_
              refine J_callS4 moX1_keepLesser jw_ml_X1_31 jw_st_X1_keepLesser dX1_writeForm_43 (w_X1_keepLesser_z (d - 1) _ a0 i2n28 y41 a1 M g n s xx yy zz S X Y Z F7n28 (by omega) hW  ha0 (by (try simp only [he41.eq, true_and, and_true]) <;> omega) (by (try simp only [he41.eq, true_and, and_true]) <;> omega) ha1 ⟨_, hO_a0, hF_M⟩ ⟨_, hO_a0, hF_g⟩ ⟨_, hO_a0, hF_n⟩ ⟨_, hO_a0, hF_s⟩ ⟨_, hO_a0, hF_xx⟩ ⟨_, hO_a0, hF_yy⟩ ⟨_, hO_a0, hF_zz⟩ ha_S ha_X ha_Y ha_Z hAF7n28 (by omega) (by omega) (by omega) (by omega) (by omega) (by omega) (by omega) hp5 (by omega) (fun j hj => by rw [hb j (by omega)]; exact jbs_b ⟨by omega, by omega⟩ (fun q hq => hp5 q (by omega)) _ (by omega) j (by omega))) (by omega) (Nat.zero_le _) (Nat.zero_le _) (Nat.le_of_ble_eq_true rfl) (fun r43 V43 h43 => ?_)
              obtain ⟨h43, hX43_0, hX43_1⟩ := h43
              obtain ⟨hW, hx43, hr43⟩ := h43
              have he := he.trans (hx43.sub (jsub_of rfl))
              have hfp := hfp.trans (hX43_1.sub (fun b hb => by simp only [List.mem_cons, List.not_mem_nil, or_false] at hb ⊢; first | (rcases hb with h9 <;> simp only [h9, true_or, or_true]) | omega))
              have ha0 := ha0.mono hx43.1
              have ha1 := ha1.mono hx43.1
              have hb_s := hb_s.mono hx43.1
              have hb_xx := hb_xx.mono hx43.1
              have hb_yy := hb_yy.mono hx43.1
              have hb_zz := hb_zz.mono hx43.1
              have hO_a0 := hx43.2 _ _ hO_a0 (jnot_of rfl)
              have hK_a0 := hK_a0.mono hx43.1
              have ha_S := hx43.2 _ _ ha_S (jnot_of rfl)
              have ha_X := hx43.2 _ _ ha_X (jnot_of rfl)
              have ha_Y := hx43.2 _ _ ha_Y (jnot_of rfl)
              have ha_Z := hx43.2 _ _ ha_Z (jnot_of rfl)
              cases hr43
              obtain ⟨B43, hB43, hBy43, hBn43⟩ := hX43_0
              simp only [he41.eq] at hBy43 hBn43
              have hb43 : ∀ j : Nat, j < n.toInt.toNat → (B43 j).toInt = jbs g.toInt (fun q => (S q).toInt) n.toInt.toNat (2 * i2n28.toInt.toNat + 1) j := jbs_step (K := 2 * i2n28.toInt.toNat) (t := i2n28.toInt) (b := decide ((0 : Int) = 1)) (by omega) (by first | (rw [show (2 * i2n28.toInt.toNat) % 2 = 0 by omega]; rfl) | (rw [show (2 * i2n28.toInt.toNat) % 2 = 1 by omega]; rfl)) hb (fun z j hj => hBy43 z j (by omega)) (fun z j hj => by rw [hBn43 z])
              obtain ⟨hN_B43, hv_B43⟩ := WT_rngI (r := ((-2147483648), 2147483647)) hW id rfl hB43
              clear hN_B43
              refine J_aload_n dX1_writeForm_46 rfl ?_
              refine J_iload_n dX1_writeForm_47 rfl ?_
              refine Jz_iconst 1 dX1_writeForm_48 (by decide) (fun y48 he48 => ?_)
              refine J_aload_n dX1_writeForm_49 rfl ?_
              refine J_callS4 moX1_keepLesser jw_ml_X1_31 jw_st_X1_keepLesser dX1_writeForm_50 (w_X1_keepLesser_z (d - 1) _ a0 i2n28 y48 a1 M g n s xx yy zz S X Y Z B43 (by omega) hW  ha0 (by (try simp only [he48.eq, true_and, and_true]) <;> omega) (by (try simp only [he48.eq, true_and, and_true]) <;> omega) ha1 ⟨_, hO_a0, hF_M⟩ ⟨_, hO_a0, hF_g⟩ ⟨_, hO_a0, hF_n⟩ ⟨_, hO_a0, hF_s⟩ ⟨_, hO_a0, hF_xx⟩ ⟨_, hO_a0, hF_yy⟩ ⟨_, hO_a0, hF_zz⟩ ha_S ha_X ha_Y ha_Z hB43 (by omega) (by omega) (by omega) (by omega) (by omega) (by omega) (by omega) hp5 (by omega) (fun j hj => by rw [hb43 j (by omega)]; exact jbs_b ⟨by omega, by omega⟩ (fun q hq => hp5 q (by omega)) _ (by omega) j (by omega))) (by omega) (Nat.zero_le _) (Nat.zero_le _) (Nat.le_of_ble_eq_true rfl) (fun r50 V50 h50 => ?_)
              obtain ⟨h50, hX50_0, hX50_1⟩ := h50
              obtain ⟨hW, hx50, hr50⟩ := h50
              have he := he.trans (hx50.sub (jsub_of rfl))
              have hfp := hfp.trans (hX50_1.sub (fun b hb => by simp only [List.mem_cons, List.not_mem_nil, or_false] at hb ⊢; first | (rcases hb with h9 <;> simp only [h9, true_or, or_true]) | omega))
              have ha0 := ha0.mono hx50.1
              have ha1 := ha1.mono hx50.1
              have hb_s := hb_s.mono hx50.1
              have hb_xx := hb_xx.mono hx50.1
              have hb_yy := hb_yy.mono hx50.1
              have hb_zz := hb_zz.mono hx50.1
              have hO_a0 := hx50.2 _ _ hO_a0 (jnot_of rfl)
              have hK_a0 := hK_a0.mono hx50.1
              have ha_S := hx50.2 _ _ ha_S (jnot_of rfl)
              have ha_X := hx50.2 _ _ ha_X (jnot_of rfl)
              have ha_Y := hx50.2 _ _ ha_Y (jnot_of rfl)
              have ha_Z := hx50.2 _ _ ha_Z (jnot_of rfl)
              cases hr50
              obtain ⟨B50, hB50, hBy50, hBn50⟩ := hX50_0
              simp only [he48.eq] at hBy50 hBn50
              have hb50 : ∀ j : Nat, j < n.toInt.toNat → (B50 j).toInt = jbs g.toInt (fun q => (S q).toInt) n.toInt.toNat (2 * i2n28.toInt.toNat + 1 + 1) j := jbs_step (K := 2 * i2n28.toInt.toNat + 1) (t := i2n28.toInt) (b := decide ((1 : Int) = 1)) (by omega) (by first | (rw [show (2 * i2n28.toInt.toNat + 1) % 2 = 0 by omega]; rfl) | (rw [show (2 * i2n28.toInt.toNat + 1) % 2 = 1 by omega]; rfl)) hb43 (fun z j hj => hBy50 z j (by omega)) (fun z j hj => by rw [hBn50 z])
              obtain ⟨hN_B50, hv_B50⟩ := WT_rngI (r := ((-2147483648), 2147483647)) hW id rfl hB50
              clear hN_B50
              refine Jz_iinc 1 dX1_writeForm_53 rfl rfl (by decide) jEq.rf (by decide) (by omega) (by omega) (fun y53 he53 => ?_)
              refine J_goto (tgt := 28) dX1_writeForm_56 (by decide) ?_
              refine J.mask [true, true, true] ?_
              exact ih28 _ y53 B50 hW he ha0 ha1 hb_s hb_xx hb_yy hb_zz hfp hO_a0 hK_a0 hB50 ha_S ha_X ha_Y ha_Z (by (try simp only [he53.eq, true_and, and_true]) <;> omega) (by rw [he53.eq, show 2 * (i2n28.toInt + 1).toNat = 2 * i2n28.toInt.toNat + 1 + 1 by omega]; exact hb50) (by (try simp only [he53.eq, true_and, and_true]) <;> omega)
        refine J.mask [true, true, true] ?_
        exact L28 _ _ y26 F7n2 hW he ha0 ha1 hb_s hb_xx hb_yy hb_zz hfp hO_a0 hK_a0 hAF7n2 ha_S ha_X ha_Y ha_Z (by rw [he26.eq]; omega) (fun j hj => by rw [he26.eq]; exact hc j (by omega)) (Nat.lt_succ_self _)
      · refine J_aload_n dX1_writeForm_10 rfl ?_
        refine J_iload_n dX1_writeForm_11 rfl ?_
        refine J_aload_n dX1_writeForm_12 rfl ?_
        refine J_iload_n dX1_writeForm_13 rfl ?_
        refine Jw_callV1 (q9 := (RX3, TX3, 7)) moX3_direction jw_ml_X1_15 jw_im_X3_direction jw_se_X3_direction ha0 rfl rfl dX1_writeForm_14 (w_X3_direction_z (d - 1) _ a0 i2n2 s S (by omega) hW  ha0 ⟨_, hO_a0, hF_s⟩ ha_S (by omega) (by omega) (by omega)) (by omega) (Nat.zero_le _) (Nat.zero_le _) (Nat.le_of_ble_eq_true rfl) (fun r14 V14 h14 => ?_)
        obtain ⟨⟨y14, rfl, hl14, hh14, hP14_0⟩, hE14⟩ := h14
        have hE14 := hE14.symm
        subst hE14
        clear hl14 hh14
        have hz14 : jEq y14.toInt ((S (i2n2.toInt).toNat).toInt) := hP14_0
        clear hP14_0
        refine J_callSN3 moX6_put (host := "WalkGrounds") (List.mem_of_getElem? (i := 2) rfl) jw_st_X6_put dX1_writeForm_17 (w_X6_put_z (d - 1) _ a1 i2n2 y14 hW hAF7n2 (WT_rngI (r := (-2147483648, 2147483647)) hW id rfl hAF7n2).1 rfl rfl (by omega)) (by omega) (Nat.zero_le _) (Nat.zero_le _) (Nat.le_of_ble_eq_true rfl) (fun r17 V17 h17 => ?_)
        obtain ⟨rfl, hW, hx17, hB17, G17, hA17, hp17, ho17⟩ := h17
        obtain ⟨hN17, hv17⟩ := WT_rngI (r := (-2147483648, 2147483647)) hW id rfl hA17
        clear hN17
        have he := he.trans (hx17.sub (jsub_of rfl))
        have hfp := hfp.trans (jfp.one hB17 List.mem_cons_self)
        have ha0 := ha0.mono hx17.1
        have ha1 := ha1.mono hx17.1
        have hb_s := hb_s.mono hx17.1
        have hb_xx := hb_xx.mono hx17.1
        have hb_yy := hb_yy.mono hx17.1
        have hb_zz := hb_zz.mono hx17.1
        have hO_a0 := hx17.2 _ _ hO_a0 (jnot_of rfl)
        have hK_a0 := hK_a0.mono hx17.1
        have ha_S := hx17.2 _ _ ha_S (jnot_of rfl)
        have ha_X := hx17.2 _ _ ha_X (jnot_of rfl)
        have ha_Y := hx17.2 _ _ ha_Y (jnot_of rfl)
        have ha_Z := hx17.2 _ _ ha_Z (jnot_of rfl)
        · refine Jz_iinc 1 dX1_writeForm_20 rfl rfl (by decide) jEq.rf (by decide) (by omega) (by omega) (fun y20 he20 => ?_)
          refine J_goto (tgt := 2) dX1_writeForm_23 (by decide) ?_
          refine J.mask [true, true, true] ?_
          exact ih2 _ y20 G17 hW he ha0 ha1 hb_s hb_xx hb_yy hb_zz hfp hO_a0 hK_a0 hA17 ha_S ha_X ha_Y ha_Z (by (try simp only [he20.eq, true_and, and_true]) <;> omega) (fun j hj => by rw [he20.eq] at hj; by_cases h9 : (j : Int) = i2n2.toInt; (have e : j = i2n2.toInt.toNat := by omega); subst e; rw [hp17 (by omega), hz14.eq]; rw [ho17 j (by omega)]; exact hc j (by omega)) (by (try simp only [he20.eq, true_and, and_true]) <;> omega)
  refine J.mask [true, true, true] ?_
  exact L2 _ _ y0 B hW he ha0 ha1 hb_s hb_xx hb_yy hb_zz hfp hO_a0 hK_a0 ha_B ha_S ha_X ha_Y ha_Z (by (try simp only [he0.eq, true_and, and_true]) <;> omega) (fun j hj => by rw [he0.eq] at hj; omega) (Nat.lt_succ_self _)
set_option maxRecDepth 100000 in
set_option maxHeartbeats 8000000 in
theorem w_X6_alike_oo {tS : jTS} (d : Nat) (V0 : jH) (a0 : Nat) (x1 : Int32) (x2 : Int32) (k : Int32) (md : Nat) (hd : 6 ≤ d) (hW : WT V0) (ha0 : jis V0 (.inr 4) a0) (hf_k : jfI V0 a0 4 1 k) (hr_md : jfR V0 a0 4 0 md) (hp0 : ¬ (0 ≤ x1.toInt ∧ x1.toInt < k.toInt)) (hp1 : ¬ (0 ≤ x2.toInt ∧ x2.toInt < k.toInt)) : jTot tS mX6_alike d [.ref a0, .int x1, .int x2] V0 0 0 (fun r V => (fun r _ => ∃ y : Int32, r = some (.int y) ∧ ((-2147483648) ≤ y.toInt) ∧ (y.toInt ≤ 2147483647) ∧ (y.toInt = -2)) r V ∧ V = V0) := by
  refine jTot.of_J [some (.ref a0), some (.int x1), some (.int x2), none, none, none] moX6_alike (Nat.le_of_ble_eq_true rfl) rfl ?_
  have hrx1 := j_rng x1
  have hrx2 := j_rng x2
  have he : jeff [] V0 V0 := jeff.refl _ _
  obtain ⟨fs_a0, hO_a0, hK_a0⟩ := WT_obj hW id ha0
  have hF_k := hf_k.get hO_a0
  have hrk : 0 ≤ k.toInt ∧ k.toInt ≤ 16 := jok_rngI hK_a0 rfl hF_k
  have hF_md := hr_md.get hO_a0
  obtain ⟨w_md, hFq_md, b_md, hbq_md, hb_md⟩ := hK_a0.2 0 (.inr (some (.inl 4))) rfl
  cases hF_md.symm.trans (hFq_md.trans (congrArg some hbq_md))
  refine J_aload_n dX6_alike_0 rfl ?_
  refine J_iload_n dX6_alike_1 rfl ?_
  refine Jw_callV1 (q9 := (RX6, TX6, 7)) moX6_rowOf jw_ml_X6_55 jw_im_X6_rowOf jw_se_X6_rowOf ha0 rfl rfl dX6_alike_2 (w_X6_rowOf_out (d - 1) _ a0 x1 hO_a0 hF_k (by omega)) (by omega) (Nat.zero_le _) (Nat.zero_le _) (Nat.le_of_ble_eq_true rfl) (fun r2 V2 h2 => ?_)
  obtain ⟨rfl, hE2⟩ := h2
  have hE2 := hE2.symm
  subst hE2
  · refine J_astore_nN dX6_alike_5 rfl (by decide) ?_
    refine J_aload_n dX6_alike_6 rfl ?_
    refine J_iload_n dX6_alike_7 rfl ?_
    refine Jw_callV1 (q9 := (RX6, TX6, 7)) moX6_rowOf jw_ml_X6_55 jw_im_X6_rowOf jw_se_X6_rowOf ha0 rfl rfl dX6_alike_8 (w_X6_rowOf_out (d - 1) _ a0 x2 hO_a0 hF_k (by omega)) (by omega) (Nat.zero_le _) (Nat.zero_le _) (Nat.le_of_ble_eq_true rfl) (fun r8 V8 h8 => ?_)
    obtain ⟨rfl, hE8⟩ := h8
    have hE8 := hE8.symm
    subst hE8
    · refine J_astoreN dX6_alike_11 rfl (by decide) ?_
      refine J_aload_nN dX6_alike_13 rfl ?_
      refine J_ifnullN (tgt := 22) dX6_alike_14 (by decide) ?_
      refine Jz_bipush (-2) dX6_alike_22 (by decide) (fun y22 he22 => ?_)
      exact J_ret (r := some (.int _)) dX6_alike_24 ⟨rfl, _, rfl, rfl⟩ (⟨⟨_, rfl, (j_rng _).1, (j_rng _).2, (by (try simp only [he22.eq, true_and, and_true]) <;> omega)⟩, rfl⟩)
set_option maxRecDepth 100000 in
set_option maxHeartbeats 8000000 in
theorem w_X6_alike_oi {tS : jTS} (d : Nat) (V0 : jH) (a0 : Nat) (x1 : Int32) (x2 : Int32) (k : Int32) (md : Nat) (f : Nat → Option Nat) (rb : Nat) (MB : Int32) (gB : Int32) (nB : Int32) (sB : Nat) (xxB : Nat) (yyB : Nat) (zzB : Nat) (SB : Nat → Int32) (XB : Nat → Int32) (YB : Nat → Int32) (ZB : Nat → Int32) (hd : 6 ≤ d) (hW : WT V0) (ha0 : jis V0 (.inr 4) a0) (hf_k : jfI V0 a0 4 1 k) (hr_md : jfR V0 a0 4 0 md) (ha_f : V0 md = some (.inl (4, 16, .inr (.inr (.inr (.inr f)))))) (hf_MB : jfI V0 rb 1 0 MB) (hf_gB : jfI V0 rb 1 5 gB) (hf_nB : jfI V0 rb 1 6 nB) (hr_sB : jfR V0 rb 1 1 sB) (hr_xxB : jfR V0 rb 1 2 xxB) (hr_yyB : jfR V0 rb 1 3 yyB) (hr_zzB : jfR V0 rb 1 4 zzB) (ha_SB : V0 sB = some (.inl (6, 60, .inl SB))) (ha_XB : V0 xxB = some (.inl (34, 61, .inl XB))) (ha_YB : V0 yyB = some (.inl (35, 61, .inl YB))) (ha_ZB : V0 zzB = some (.inl (36, 61, .inl ZB))) (hm_rb : MB.toInt = 60) (hn_rb : nB.toInt ≤ 60) (hfb : f x2.toInt.toNat = some rb) (hp0 : ¬ (0 ≤ x1.toInt ∧ x1.toInt < k.toInt)) (hp1 : 0 ≤ x2.toInt) (hp2 : x2.toInt < k.toInt) : jTot tS mX6_alike d [.ref a0, .int x1, .int x2] V0 0 0 (fun r V => (fun r _ => ∃ y : Int32, r = some (.int y) ∧ ((-2147483648) ≤ y.toInt) ∧ (y.toInt ≤ 2147483647) ∧ (y.toInt = -2)) r V ∧ V = V0) := by
  refine jTot.of_J [some (.ref a0), some (.int x1), some (.int x2), none, none, none] moX6_alike (Nat.le_of_ble_eq_true rfl) rfl ?_
  have hrx1 := j_rng x1
  have hrx2 := j_rng x2
  have he : jeff [] V0 V0 := jeff.refl _ _
  obtain ⟨fs_a0, hO_a0, hK_a0⟩ := WT_obj hW id ha0
  have hF_k := hf_k.get hO_a0
  have hrk : 0 ≤ k.toInt ∧ k.toInt ≤ 16 := jok_rngI hK_a0 rfl hF_k
  have hF_md := hr_md.get hO_a0
  obtain ⟨w_md, hFq_md, b_md, hbq_md, hb_md⟩ := hK_a0.2 0 (.inr (some (.inl 4))) rfl
  cases hF_md.symm.trans (hFq_md.trans (congrArg some hbq_md))
  have hb_rb : jis V0 (.inr 1) rb := by obtain ⟨q1, q2, q3⟩ := hf_MB; exact ⟨_, q2, rfl⟩
  obtain ⟨fs_rb, hO_rb, hK_rb⟩ := WT_obj hW id hb_rb
  have hF_MB := hf_MB.get hO_rb
  have hrMB : 0 ≤ MB.toInt ∧ MB.toInt ≤ 120 := jok_rngI hK_rb rfl hF_MB
  have hF_gB := hf_gB.get hO_rb
  have hrgB : (-2147483648) ≤ gB.toInt ∧ gB.toInt ≤ 2147483647 := jok_rngI hK_rb rfl hF_gB
  have hF_nB := hf_nB.get hO_rb
  have hrnB : 0 ≤ nB.toInt ∧ nB.toInt ≤ 120 := jok_rngI hK_rb rfl hF_nB
  have hF_sB := hr_sB.get hO_rb
  have hb_sB : jis V0 (.inl 6) sB := ⟨_, ha_SB, rfl⟩
  obtain ⟨hN_SB, hv_SB⟩ := WT_rngI (r := (-2147483648, 2147483647)) hW id rfl ha_SB
  clear hN_SB
  have hF_xxB := hr_xxB.get hO_rb
  have hb_xxB : jis V0 (.inl 34) xxB := ⟨_, ha_XB, rfl⟩
  obtain ⟨hN_XB, hv_XB⟩ := WT_rngI (r := (-2147483648, 2147483647)) hW id rfl ha_XB
  clear hN_XB
  have hF_yyB := hr_yyB.get hO_rb
  have hb_yyB : jis V0 (.inl 35) yyB := ⟨_, ha_YB, rfl⟩
  obtain ⟨hN_YB, hv_YB⟩ := WT_rngI (r := (-2147483648, 2147483647)) hW id rfl ha_YB
  clear hN_YB
  have hF_zzB := hr_zzB.get hO_rb
  have hb_zzB : jis V0 (.inl 36) zzB := ⟨_, ha_ZB, rfl⟩
  obtain ⟨hN_ZB, hv_ZB⟩ := WT_rngI (r := (-2147483648, 2147483647)) hW id rfl ha_ZB
  clear hN_ZB
  refine J_aload_n dX6_alike_0 rfl ?_
  refine J_iload_n dX6_alike_1 rfl ?_
  refine Jw_callV1 (q9 := (RX6, TX6, 7)) moX6_rowOf jw_ml_X6_55 jw_im_X6_rowOf jw_se_X6_rowOf ha0 rfl rfl dX6_alike_2 (w_X6_rowOf_out (d - 1) _ a0 x1 hO_a0 hF_k (by omega)) (by omega) (Nat.zero_le _) (Nat.zero_le _) (Nat.le_of_ble_eq_true rfl) (fun r2 V2 h2 => ?_)
  obtain ⟨rfl, hE2⟩ := h2
  have hE2 := hE2.symm
  subst hE2
  · refine J_astore_nN dX6_alike_5 rfl (by decide) ?_
    refine J_aload_n dX6_alike_6 rfl ?_
    refine J_iload_n dX6_alike_7 rfl ?_
    refine Jw_callV1 (q9 := (RX6, TX6, 7)) moX6_rowOf jw_ml_X6_55 jw_im_X6_rowOf jw_se_X6_rowOf ha0 rfl rfl dX6_alike_8 (w_X6_rowOf_in (d - 1) _ a0 x2 hO_a0 hF_md hF_k ha_f (by omega) (by omega) (by omega) hfb) (by omega) (Nat.zero_le _) (Nat.zero_le _) (Nat.le_of_ble_eq_true rfl) (fun r8 V8 h8 => ?_)
    obtain ⟨rfl, hE8⟩ := h8
    have hE8 := hE8.symm
    subst hE8
    · refine J_astore dX6_alike_11 rfl (by decide) ?_
      refine J_aload_nN dX6_alike_13 rfl ?_
      refine J_ifnullN (tgt := 22) dX6_alike_14 (by decide) ?_
      refine Jz_bipush (-2) dX6_alike_22 (by decide) (fun y22 he22 => ?_)
      exact J_ret (r := some (.int _)) dX6_alike_24 ⟨rfl, _, rfl, rfl⟩ (⟨⟨_, rfl, (j_rng _).1, (j_rng _).2, (by (try simp only [he22.eq, true_and, and_true]) <;> omega)⟩, rfl⟩)
set_option maxRecDepth 100000 in
set_option maxHeartbeats 8000000 in
theorem w_X6_alike_out2 {tS : jTS} (d : Nat) (V0 : jH) (a0 : Nat) (x1 : Int32) (x2 : Int32) (k : Int32) (md : Nat) (f : Nat → Option Nat) (ro : Nat) (M : Int32) (g : Int32) (n : Int32) (s : Nat) (xx : Nat) (yy : Nat) (zz : Nat) (S : Nat → Int32) (X : Nat → Int32) (Y : Nat → Int32) (Z : Nat → Int32) (hd : 6 ≤ d) (hW : WT V0) (ha0 : jis V0 (.inr 4) a0) (hf_k : jfI V0 a0 4 1 k) (hr_md : jfR V0 a0 4 0 md) (ha_f : V0 md = some (.inl (4, 16, .inr (.inr (.inr (.inr f)))))) (hf_M : jfI V0 ro 1 0 M) (hf_g : jfI V0 ro 1 5 g) (hf_n : jfI V0 ro 1 6 n) (hr_s : jfR V0 ro 1 1 s) (hr_xx : jfR V0 ro 1 2 xx) (hr_yy : jfR V0 ro 1 3 yy) (hr_zz : jfR V0 ro 1 4 zz) (ha_S : V0 s = some (.inl (6, 60, .inl S))) (ha_X : V0 xx = some (.inl (34, 61, .inl X))) (ha_Y : V0 yy = some (.inl (35, 61, .inl Y))) (ha_Z : V0 zz = some (.inl (36, 61, .inl Z))) (hm_ro : M.toInt = 60) (hn_ro : n.toInt ≤ 60) (hfo : f x1.toInt.toNat = some ro) (hp0 : 0 ≤ x1.toInt) (hp1 : x1.toInt < k.toInt) (hp2 : ¬ (0 ≤ x2.toInt ∧ x2.toInt < k.toInt)) : jTot tS mX6_alike d [.ref a0, .int x1, .int x2] V0 0 0 (fun r V => (fun r _ => ∃ y : Int32, r = some (.int y) ∧ ((-2147483648) ≤ y.toInt) ∧ (y.toInt ≤ 2147483647) ∧ (y.toInt = -2)) r V ∧ V = V0) := by
  refine jTot.of_J [some (.ref a0), some (.int x1), some (.int x2), none, none, none] moX6_alike (Nat.le_of_ble_eq_true rfl) rfl ?_
  have hrx1 := j_rng x1
  have hrx2 := j_rng x2
  have he : jeff [] V0 V0 := jeff.refl _ _
  obtain ⟨fs_a0, hO_a0, hK_a0⟩ := WT_obj hW id ha0
  have hF_k := hf_k.get hO_a0
  have hrk : 0 ≤ k.toInt ∧ k.toInt ≤ 16 := jok_rngI hK_a0 rfl hF_k
  have hF_md := hr_md.get hO_a0
  obtain ⟨w_md, hFq_md, b_md, hbq_md, hb_md⟩ := hK_a0.2 0 (.inr (some (.inl 4))) rfl
  cases hF_md.symm.trans (hFq_md.trans (congrArg some hbq_md))
  have hb_ro : jis V0 (.inr 1) ro := by obtain ⟨q1, q2, q3⟩ := hf_M; exact ⟨_, q2, rfl⟩
  obtain ⟨fs_ro, hO_ro, hK_ro⟩ := WT_obj hW id hb_ro
  have hF_M := hf_M.get hO_ro
  have hrM : 0 ≤ M.toInt ∧ M.toInt ≤ 120 := jok_rngI hK_ro rfl hF_M
  have hF_g := hf_g.get hO_ro
  have hrg : (-2147483648) ≤ g.toInt ∧ g.toInt ≤ 2147483647 := jok_rngI hK_ro rfl hF_g
  have hF_n := hf_n.get hO_ro
  have hrn : 0 ≤ n.toInt ∧ n.toInt ≤ 120 := jok_rngI hK_ro rfl hF_n
  have hF_s := hr_s.get hO_ro
  have hb_s : jis V0 (.inl 6) s := ⟨_, ha_S, rfl⟩
  obtain ⟨hN_S, hv_S⟩ := WT_rngI (r := (-2147483648, 2147483647)) hW id rfl ha_S
  clear hN_S
  have hF_xx := hr_xx.get hO_ro
  have hb_xx : jis V0 (.inl 34) xx := ⟨_, ha_X, rfl⟩
  obtain ⟨hN_X, hv_X⟩ := WT_rngI (r := (-2147483648, 2147483647)) hW id rfl ha_X
  clear hN_X
  have hF_yy := hr_yy.get hO_ro
  have hb_yy : jis V0 (.inl 35) yy := ⟨_, ha_Y, rfl⟩
  obtain ⟨hN_Y, hv_Y⟩ := WT_rngI (r := (-2147483648, 2147483647)) hW id rfl ha_Y
  clear hN_Y
  have hF_zz := hr_zz.get hO_ro
  have hb_zz : jis V0 (.inl 36) zz := ⟨_, ha_Z, rfl⟩
  obtain ⟨hN_Z, hv_Z⟩ := WT_rngI (r := (-2147483648, 2147483647)) hW id rfl ha_Z
  clear hN_Z
  refine J_aload_n dX6_alike_0 rfl ?_
  refine J_iload_n dX6_alike_1 rfl ?_
  refine Jw_callV1 (q9 := (RX6, TX6, 7)) moX6_rowOf jw_ml_X6_55 jw_im_X6_rowOf jw_se_X6_rowOf ha0 rfl rfl dX6_alike_2 (w_X6_rowOf_in (d - 1) _ a0 x1 hO_a0 hF_md hF_k ha_f (by omega) (by omega) (by omega) hfo) (by omega) (Nat.zero_le _) (Nat.zero_le _) (Nat.le_of_ble_eq_true rfl) (fun r2 V2 h2 => ?_)
  obtain ⟨rfl, hE2⟩ := h2
  have hE2 := hE2.symm
  subst hE2
  · refine J_astore_n dX6_alike_5 rfl (by decide) ?_
    refine J_aload_n dX6_alike_6 rfl ?_
    refine J_iload_n dX6_alike_7 rfl ?_
    refine Jw_callV1 (q9 := (RX6, TX6, 7)) moX6_rowOf jw_ml_X6_55 jw_im_X6_rowOf jw_se_X6_rowOf ha0 rfl rfl dX6_alike_8 (w_X6_rowOf_out (d - 1) _ a0 x2 hO_a0 hF_k (by omega)) (by omega) (Nat.zero_le _) (Nat.zero_le _) (Nat.le_of_ble_eq_true rfl) (fun r8 V8 h8 => ?_)
    obtain ⟨rfl, hE8⟩ := h8
    have hE8 := hE8.symm
    subst hE8
    · refine J_astoreN dX6_alike_11 rfl (by decide) ?_
      refine J_aload_n dX6_alike_13 rfl ?_
      refine J_ifnull dX6_alike_14 ?_
      refine J_aloadN dX6_alike_17 rfl ?_
      refine J_ifnonnullN dX6_alike_19 ?_
      refine Jz_bipush (-2) dX6_alike_22 (by decide) (fun y22 he22 => ?_)
      exact J_ret (r := some (.int _)) dX6_alike_24 ⟨rfl, _, rfl, rfl⟩ (⟨⟨_, rfl, (j_rng _).1, (j_rng _).2, (by (try simp only [he22.eq, true_and, and_true]) <;> omega)⟩, rfl⟩)
set_option maxRecDepth 100000 in
set_option maxHeartbeats 8000000 in
theorem w_X6_alike_dif {tS : jTS} (d : Nat) (V0 : jH) (a0 : Nat) (x1 : Int32) (x2 : Int32) (k : Int32) (md : Nat) (f : Nat → Option Nat) (ro : Nat) (M : Int32) (g : Int32) (n : Int32) (s : Nat) (xx : Nat) (yy : Nat) (zz : Nat) (S : Nat → Int32) (X : Nat → Int32) (Y : Nat → Int32) (Z : Nat → Int32) (rb : Nat) (MB : Int32) (gB : Int32) (nB : Int32) (sB : Nat) (xxB : Nat) (yyB : Nat) (zzB : Nat) (SB : Nat → Int32) (XB : Nat → Int32) (YB : Nat → Int32) (ZB : Nat → Int32) (hd : 6 ≤ d) (hW : WT V0) (ha0 : jis V0 (.inr 4) a0) (hf_k : jfI V0 a0 4 1 k) (hr_md : jfR V0 a0 4 0 md) (ha_f : V0 md = some (.inl (4, 16, .inr (.inr (.inr (.inr f)))))) (hf_M : jfI V0 ro 1 0 M) (hf_g : jfI V0 ro 1 5 g) (hf_n : jfI V0 ro 1 6 n) (hr_s : jfR V0 ro 1 1 s) (hr_xx : jfR V0 ro 1 2 xx) (hr_yy : jfR V0 ro 1 3 yy) (hr_zz : jfR V0 ro 1 4 zz) (ha_S : V0 s = some (.inl (6, 60, .inl S))) (ha_X : V0 xx = some (.inl (34, 61, .inl X))) (ha_Y : V0 yy = some (.inl (35, 61, .inl Y))) (ha_Z : V0 zz = some (.inl (36, 61, .inl Z))) (hm_ro : M.toInt = 60) (hn_ro : n.toInt ≤ 60) (hfo : f x1.toInt.toNat = some ro) (hf_MB : jfI V0 rb 1 0 MB) (hf_gB : jfI V0 rb 1 5 gB) (hf_nB : jfI V0 rb 1 6 nB) (hr_sB : jfR V0 rb 1 1 sB) (hr_xxB : jfR V0 rb 1 2 xxB) (hr_yyB : jfR V0 rb 1 3 yyB) (hr_zzB : jfR V0 rb 1 4 zzB) (ha_SB : V0 sB = some (.inl (6, 60, .inl SB))) (ha_XB : V0 xxB = some (.inl (34, 61, .inl XB))) (ha_YB : V0 yyB = some (.inl (35, 61, .inl YB))) (ha_ZB : V0 zzB = some (.inl (36, 61, .inl ZB))) (hm_rb : MB.toInt = 60) (hn_rb : nB.toInt ≤ 60) (hfb : f x2.toInt.toNat = some rb) (hp0 : 0 ≤ x1.toInt) (hp1 : x1.toInt < k.toInt) (hp2 : 0 ≤ x2.toInt) (hp3 : x2.toInt < k.toInt) (hp4 : ¬ g.toInt = gB.toInt) : jTot tS mX6_alike d [.ref a0, .int x1, .int x2] V0 0 0 (fun r V => (fun r _ => ∃ y : Int32, r = some (.int y) ∧ ((-2147483648) ≤ y.toInt) ∧ (y.toInt ≤ 2147483647) ∧ (y.toInt = -3)) r V ∧ V = V0) := by
  refine jTot.of_J [some (.ref a0), some (.int x1), some (.int x2), none, none, none] moX6_alike (Nat.le_of_ble_eq_true rfl) rfl ?_
  have hrx1 := j_rng x1
  have hrx2 := j_rng x2
  have he : jeff [] V0 V0 := jeff.refl _ _
  obtain ⟨fs_a0, hO_a0, hK_a0⟩ := WT_obj hW id ha0
  have hF_k := hf_k.get hO_a0
  have hrk : 0 ≤ k.toInt ∧ k.toInt ≤ 16 := jok_rngI hK_a0 rfl hF_k
  have hF_md := hr_md.get hO_a0
  obtain ⟨w_md, hFq_md, b_md, hbq_md, hb_md⟩ := hK_a0.2 0 (.inr (some (.inl 4))) rfl
  cases hF_md.symm.trans (hFq_md.trans (congrArg some hbq_md))
  have hb_ro : jis V0 (.inr 1) ro := by obtain ⟨q1, q2, q3⟩ := hf_M; exact ⟨_, q2, rfl⟩
  obtain ⟨fs_ro, hO_ro, hK_ro⟩ := WT_obj hW id hb_ro
  have hF_M := hf_M.get hO_ro
  have hrM : 0 ≤ M.toInt ∧ M.toInt ≤ 120 := jok_rngI hK_ro rfl hF_M
  have hF_g := hf_g.get hO_ro
  have hrg : (-2147483648) ≤ g.toInt ∧ g.toInt ≤ 2147483647 := jok_rngI hK_ro rfl hF_g
  have hF_n := hf_n.get hO_ro
  have hrn : 0 ≤ n.toInt ∧ n.toInt ≤ 120 := jok_rngI hK_ro rfl hF_n
  have hF_s := hr_s.get hO_ro
  have hb_s : jis V0 (.inl 6) s := ⟨_, ha_S, rfl⟩
  obtain ⟨hN_S, hv_S⟩ := WT_rngI (r := (-2147483648, 2147483647)) hW id rfl ha_S
  clear hN_S
  have hF_xx := hr_xx.get hO_ro
  have hb_xx : jis V0 (.inl 34) xx := ⟨_, ha_X, rfl⟩
  obtain ⟨hN_X, hv_X⟩ := WT_rngI (r := (-2147483648, 2147483647)) hW id rfl ha_X
  clear hN_X
  have hF_yy := hr_yy.get hO_ro
  have hb_yy : jis V0 (.inl 35) yy := ⟨_, ha_Y, rfl⟩
  obtain ⟨hN_Y, hv_Y⟩ := WT_rngI (r := (-2147483648, 2147483647)) hW id rfl ha_Y
  clear hN_Y
  have hF_zz := hr_zz.get hO_ro
  have hb_zz : jis V0 (.inl 36) zz := ⟨_, ha_Z, rfl⟩
  obtain ⟨hN_Z, hv_Z⟩ := WT_rngI (r := (-2147483648, 2147483647)) hW id rfl ha_Z
  clear hN_Z
  have hb_rb : jis V0 (.inr 1) rb := by obtain ⟨q1, q2, q3⟩ := hf_MB; exact ⟨_, q2, rfl⟩
  obtain ⟨fs_rb, hO_rb, hK_rb⟩ := WT_obj hW id hb_rb
  have hF_MB := hf_MB.get hO_rb
  have hrMB : 0 ≤ MB.toInt ∧ MB.toInt ≤ 120 := jok_rngI hK_rb rfl hF_MB
  have hF_gB := hf_gB.get hO_rb
  have hrgB : (-2147483648) ≤ gB.toInt ∧ gB.toInt ≤ 2147483647 := jok_rngI hK_rb rfl hF_gB
  have hF_nB := hf_nB.get hO_rb
  have hrnB : 0 ≤ nB.toInt ∧ nB.toInt ≤ 120 := jok_rngI hK_rb rfl hF_nB
  have hF_sB := hr_sB.get hO_rb
  have hb_sB : jis V0 (.inl 6) sB := ⟨_, ha_SB, rfl⟩
  obtain ⟨hN_SB, hv_SB⟩ := WT_rngI (r := (-2147483648, 2147483647)) hW id rfl ha_SB
  clear hN_SB
  have hF_xxB := hr_xxB.get hO_rb
  have hb_xxB : jis V0 (.inl 34) xxB := ⟨_, ha_XB, rfl⟩
  obtain ⟨hN_XB, hv_XB⟩ := WT_rngI (r := (-2147483648, 2147483647)) hW id rfl ha_XB
  clear hN_XB
  have hF_yyB := hr_yyB.get hO_rb
  have hb_yyB : jis V0 (.inl 35) yyB := ⟨_, ha_YB, rfl⟩
  obtain ⟨hN_YB, hv_YB⟩ := WT_rngI (r := (-2147483648, 2147483647)) hW id rfl ha_YB
  clear hN_YB
  have hF_zzB := hr_zzB.get hO_rb
  have hb_zzB : jis V0 (.inl 36) zzB := ⟨_, ha_ZB, rfl⟩
  obtain ⟨hN_ZB, hv_ZB⟩ := WT_rngI (r := (-2147483648, 2147483647)) hW id rfl ha_ZB
  clear hN_ZB
  refine J_aload_n dX6_alike_0 rfl ?_
  refine J_iload_n dX6_alike_1 rfl ?_
  refine Jw_callV1 (q9 := (RX6, TX6, 7)) moX6_rowOf jw_ml_X6_55 jw_im_X6_rowOf jw_se_X6_rowOf ha0 rfl rfl dX6_alike_2 (w_X6_rowOf_in (d - 1) _ a0 x1 hO_a0 hF_md hF_k ha_f (by omega) (by omega) (by omega) hfo) (by omega) (Nat.zero_le _) (Nat.zero_le _) (Nat.le_of_ble_eq_true rfl) (fun r2 V2 h2 => ?_)
  obtain ⟨rfl, hE2⟩ := h2
  have hE2 := hE2.symm
  subst hE2
  · refine J_astore_n dX6_alike_5 rfl (by decide) ?_
    refine J_aload_n dX6_alike_6 rfl ?_
    refine J_iload_n dX6_alike_7 rfl ?_
    refine Jw_callV1 (q9 := (RX6, TX6, 7)) moX6_rowOf jw_ml_X6_55 jw_im_X6_rowOf jw_se_X6_rowOf ha0 rfl rfl dX6_alike_8 (w_X6_rowOf_in (d - 1) _ a0 x2 hO_a0 hF_md hF_k ha_f (by omega) (by omega) (by omega) hfb) (by omega) (Nat.zero_le _) (Nat.zero_le _) (Nat.le_of_ble_eq_true rfl) (fun r8 V8 h8 => ?_)
    obtain ⟨rfl, hE8⟩ := h8
    have hE8 := hE8.symm
    subst hE8
    · refine J_astore dX6_alike_11 rfl (by decide) ?_
      refine J_aload_n dX6_alike_13 rfl ?_
      refine J_ifnull dX6_alike_14 ?_
      refine J_aload dX6_alike_17 rfl ?_
      refine J_ifnonnull (tgt := 25) dX6_alike_19 (by decide) ?_
      refine J_aload_n dX6_alike_25 rfl ?_
      refine J_get jf_X6_59 dX6_alike_26 hO_ro hF_g ?_
      refine J_aload dX6_alike_29 rfl ?_
      refine J_get jf_X6_59 dX6_alike_31 hO_rb hF_gB ?_
      refine Jz_icmp_eq (tgt := 40) jEq.rf jEq.rf dX6_alike_34 (by decide) (fun c34 => ?_) (fun c34 => ?_)
      · exact False.elim (by omega)
      · refine Jz_bipush (-3) dX6_alike_37 (by decide) (fun y37 he37 => ?_)
        exact J_ret (r := some (.int _)) dX6_alike_39 ⟨rfl, _, rfl, rfl⟩ (⟨⟨_, rfl, (j_rng _).1, (j_rng _).2, (by (try simp only [he37.eq, true_and, and_true]) <;> omega)⟩, rfl⟩)
set_option maxRecDepth 100000 in
set_option maxHeartbeats 8000000 in
theorem w_X6_alike_size {tS : jTS} (d : Nat) (V0 : jH) (a0 : Nat) (x1 : Int32) (x2 : Int32) (k : Int32) (md : Nat) (f : Nat → Option Nat) (ro : Nat) (M : Int32) (g : Int32) (n : Int32) (s : Nat) (xx : Nat) (yy : Nat) (zz : Nat) (S : Nat → Int32) (X : Nat → Int32) (Y : Nat → Int32) (Z : Nat → Int32) (rb : Nat) (MB : Int32) (gB : Int32) (nB : Int32) (sB : Nat) (xxB : Nat) (yyB : Nat) (zzB : Nat) (SB : Nat → Int32) (XB : Nat → Int32) (YB : Nat → Int32) (ZB : Nat → Int32) (hd : 6 ≤ d) (hW : WT V0) (ha0 : jis V0 (.inr 4) a0) (hf_k : jfI V0 a0 4 1 k) (hr_md : jfR V0 a0 4 0 md) (ha_f : V0 md = some (.inl (4, 16, .inr (.inr (.inr (.inr f)))))) (hf_M : jfI V0 ro 1 0 M) (hf_g : jfI V0 ro 1 5 g) (hf_n : jfI V0 ro 1 6 n) (hr_s : jfR V0 ro 1 1 s) (hr_xx : jfR V0 ro 1 2 xx) (hr_yy : jfR V0 ro 1 3 yy) (hr_zz : jfR V0 ro 1 4 zz) (ha_S : V0 s = some (.inl (6, 60, .inl S))) (ha_X : V0 xx = some (.inl (34, 61, .inl X))) (ha_Y : V0 yy = some (.inl (35, 61, .inl Y))) (ha_Z : V0 zz = some (.inl (36, 61, .inl Z))) (hm_ro : M.toInt = 60) (hn_ro : n.toInt ≤ 60) (hfo : f x1.toInt.toNat = some ro) (hf_MB : jfI V0 rb 1 0 MB) (hf_gB : jfI V0 rb 1 5 gB) (hf_nB : jfI V0 rb 1 6 nB) (hr_sB : jfR V0 rb 1 1 sB) (hr_xxB : jfR V0 rb 1 2 xxB) (hr_yyB : jfR V0 rb 1 3 yyB) (hr_zzB : jfR V0 rb 1 4 zzB) (ha_SB : V0 sB = some (.inl (6, 60, .inl SB))) (ha_XB : V0 xxB = some (.inl (34, 61, .inl XB))) (ha_YB : V0 yyB = some (.inl (35, 61, .inl YB))) (ha_ZB : V0 zzB = some (.inl (36, 61, .inl ZB))) (hm_rb : MB.toInt = 60) (hn_rb : nB.toInt ≤ 60) (hfb : f x2.toInt.toNat = some rb) (hp0 : 0 ≤ x1.toInt) (hp1 : x1.toInt < k.toInt) (hp2 : 0 ≤ x2.toInt) (hp3 : x2.toInt < k.toInt) (hp4 : g.toInt = gB.toInt) (hp5 : ¬ n.toInt = nB.toInt) : jTot tS mX6_alike d [.ref a0, .int x1, .int x2] V0 0 0 (fun r V => (fun r _ => ∃ y : Int32, r = some (.int y) ∧ ((-2147483648) ≤ y.toInt) ∧ (y.toInt ≤ 2147483647) ∧ (y.toInt = 0)) r V ∧ V = V0) := by
  refine jTot.of_J [some (.ref a0), some (.int x1), some (.int x2), none, none, none] moX6_alike (Nat.le_of_ble_eq_true rfl) rfl ?_
  have hrx1 := j_rng x1
  have hrx2 := j_rng x2
  have he : jeff [] V0 V0 := jeff.refl _ _
  obtain ⟨fs_a0, hO_a0, hK_a0⟩ := WT_obj hW id ha0
  have hF_k := hf_k.get hO_a0
  have hrk : 0 ≤ k.toInt ∧ k.toInt ≤ 16 := jok_rngI hK_a0 rfl hF_k
  have hF_md := hr_md.get hO_a0
  obtain ⟨w_md, hFq_md, b_md, hbq_md, hb_md⟩ := hK_a0.2 0 (.inr (some (.inl 4))) rfl
  cases hF_md.symm.trans (hFq_md.trans (congrArg some hbq_md))
  have hb_ro : jis V0 (.inr 1) ro := by obtain ⟨q1, q2, q3⟩ := hf_M; exact ⟨_, q2, rfl⟩
  obtain ⟨fs_ro, hO_ro, hK_ro⟩ := WT_obj hW id hb_ro
  have hF_M := hf_M.get hO_ro
  have hrM : 0 ≤ M.toInt ∧ M.toInt ≤ 120 := jok_rngI hK_ro rfl hF_M
  have hF_g := hf_g.get hO_ro
  have hrg : (-2147483648) ≤ g.toInt ∧ g.toInt ≤ 2147483647 := jok_rngI hK_ro rfl hF_g
  have hF_n := hf_n.get hO_ro
  have hrn : 0 ≤ n.toInt ∧ n.toInt ≤ 120 := jok_rngI hK_ro rfl hF_n
  have hF_s := hr_s.get hO_ro
  have hb_s : jis V0 (.inl 6) s := ⟨_, ha_S, rfl⟩
  obtain ⟨hN_S, hv_S⟩ := WT_rngI (r := (-2147483648, 2147483647)) hW id rfl ha_S
  clear hN_S
  have hF_xx := hr_xx.get hO_ro
  have hb_xx : jis V0 (.inl 34) xx := ⟨_, ha_X, rfl⟩
  obtain ⟨hN_X, hv_X⟩ := WT_rngI (r := (-2147483648, 2147483647)) hW id rfl ha_X
  clear hN_X
  have hF_yy := hr_yy.get hO_ro
  have hb_yy : jis V0 (.inl 35) yy := ⟨_, ha_Y, rfl⟩
  obtain ⟨hN_Y, hv_Y⟩ := WT_rngI (r := (-2147483648, 2147483647)) hW id rfl ha_Y
  clear hN_Y
  have hF_zz := hr_zz.get hO_ro
  have hb_zz : jis V0 (.inl 36) zz := ⟨_, ha_Z, rfl⟩
  obtain ⟨hN_Z, hv_Z⟩ := WT_rngI (r := (-2147483648, 2147483647)) hW id rfl ha_Z
  clear hN_Z
  have hb_rb : jis V0 (.inr 1) rb := by obtain ⟨q1, q2, q3⟩ := hf_MB; exact ⟨_, q2, rfl⟩
  obtain ⟨fs_rb, hO_rb, hK_rb⟩ := WT_obj hW id hb_rb
  have hF_MB := hf_MB.get hO_rb
  have hrMB : 0 ≤ MB.toInt ∧ MB.toInt ≤ 120 := jok_rngI hK_rb rfl hF_MB
  have hF_gB := hf_gB.get hO_rb
  have hrgB : (-2147483648) ≤ gB.toInt ∧ gB.toInt ≤ 2147483647 := jok_rngI hK_rb rfl hF_gB
  have hF_nB := hf_nB.get hO_rb
  have hrnB : 0 ≤ nB.toInt ∧ nB.toInt ≤ 120 := jok_rngI hK_rb rfl hF_nB
  have hF_sB := hr_sB.get hO_rb
  have hb_sB : jis V0 (.inl 6) sB := ⟨_, ha_SB, rfl⟩
  obtain ⟨hN_SB, hv_SB⟩ := WT_rngI (r := (-2147483648, 2147483647)) hW id rfl ha_SB
  clear hN_SB
  have hF_xxB := hr_xxB.get hO_rb
  have hb_xxB : jis V0 (.inl 34) xxB := ⟨_, ha_XB, rfl⟩
  obtain ⟨hN_XB, hv_XB⟩ := WT_rngI (r := (-2147483648, 2147483647)) hW id rfl ha_XB
  clear hN_XB
  have hF_yyB := hr_yyB.get hO_rb
  have hb_yyB : jis V0 (.inl 35) yyB := ⟨_, ha_YB, rfl⟩
  obtain ⟨hN_YB, hv_YB⟩ := WT_rngI (r := (-2147483648, 2147483647)) hW id rfl ha_YB
  clear hN_YB
  have hF_zzB := hr_zzB.get hO_rb
  have hb_zzB : jis V0 (.inl 36) zzB := ⟨_, ha_ZB, rfl⟩
  obtain ⟨hN_ZB, hv_ZB⟩ := WT_rngI (r := (-2147483648, 2147483647)) hW id rfl ha_ZB
  clear hN_ZB
  refine J_aload_n dX6_alike_0 rfl ?_
  refine J_iload_n dX6_alike_1 rfl ?_
  refine Jw_callV1 (q9 := (RX6, TX6, 7)) moX6_rowOf jw_ml_X6_55 jw_im_X6_rowOf jw_se_X6_rowOf ha0 rfl rfl dX6_alike_2 (w_X6_rowOf_in (d - 1) _ a0 x1 hO_a0 hF_md hF_k ha_f (by omega) (by omega) (by omega) hfo) (by omega) (Nat.zero_le _) (Nat.zero_le _) (Nat.le_of_ble_eq_true rfl) (fun r2 V2 h2 => ?_)
  obtain ⟨rfl, hE2⟩ := h2
  have hE2 := hE2.symm
  subst hE2
  · refine J_astore_n dX6_alike_5 rfl (by decide) ?_
    refine J_aload_n dX6_alike_6 rfl ?_
    refine J_iload_n dX6_alike_7 rfl ?_
    refine Jw_callV1 (q9 := (RX6, TX6, 7)) moX6_rowOf jw_ml_X6_55 jw_im_X6_rowOf jw_se_X6_rowOf ha0 rfl rfl dX6_alike_8 (w_X6_rowOf_in (d - 1) _ a0 x2 hO_a0 hF_md hF_k ha_f (by omega) (by omega) (by omega) hfb) (by omega) (Nat.zero_le _) (Nat.zero_le _) (Nat.le_of_ble_eq_true rfl) (fun r8 V8 h8 => ?_)
    obtain ⟨rfl, hE8⟩ := h8
    have hE8 := hE8.symm
    subst hE8
    · refine J_astore dX6_alike_11 rfl (by decide) ?_
      refine J_aload_n dX6_alike_13 rfl ?_
      refine J_ifnull dX6_alike_14 ?_
      refine J_aload dX6_alike_17 rfl ?_
      refine J_ifnonnull (tgt := 25) dX6_alike_19 (by decide) ?_
      refine J_aload_n dX6_alike_25 rfl ?_
      refine J_get jf_X6_59 dX6_alike_26 hO_ro hF_g ?_
      refine J_aload dX6_alike_29 rfl ?_
      refine J_get jf_X6_59 dX6_alike_31 hO_rb hF_gB ?_
      refine Jz_icmp_eq (tgt := 40) jEq.rf jEq.rf dX6_alike_34 (by decide) (fun c34 => ?_) (fun c34 => ?_)
      · refine J_aload_n dX6_alike_40 rfl ?_
        refine J_get jf_X6_69 dX6_alike_41 hO_ro hF_n ?_
        refine J_aload dX6_alike_44 rfl ?_
        refine J_get jf_X6_69 dX6_alike_46 hO_rb hF_nB ?_
        refine Jz_icmp_eq (tgt := 54) jEq.rf jEq.rf dX6_alike_49 (by decide) (fun c49 => ?_) (fun c49 => ?_)
        · exact False.elim (by omega)
        · refine Jz_iconst 0 dX6_alike_52 (by decide) (fun y52 he52 => ?_)
          exact J_ret (r := some (.int _)) dX6_alike_53 ⟨rfl, _, rfl, rfl⟩ (⟨⟨_, rfl, (j_rng _).1, (j_rng _).2, (by (try simp only [he52.eq, true_and, and_true]) <;> omega)⟩, rfl⟩)
      · exact False.elim (by omega)
set_option maxRecDepth 100000 in
set_option maxHeartbeats 8000000 in
theorem w_X6_alike_ok {tS : jTS} (d : Nat) (V0 : jH) (a0 : Nat) (x1 : Int32) (x2 : Int32) (k : Int32) (md : Nat) (of : Nat) (ot : Nat) (f : Nat → Option Nat) (ro : Nat) (M : Int32) (g : Int32) (n : Int32) (s : Nat) (xx : Nat) (yy : Nat) (zz : Nat) (S : Nat → Int32) (X : Nat → Int32) (Y : Nat → Int32) (Z : Nat → Int32) (rb : Nat) (MB : Int32) (gB : Int32) (nB : Int32) (sB : Nat) (xxB : Nat) (yyB : Nat) (zzB : Nat) (SB : Nat → Int32) (XB : Nat → Int32) (YB : Nat → Int32) (ZB : Nat → Int32) (OF : Nat → Int32) (OT : Nat → Int32) (hd : 6 ≤ d) (hW : WT V0) (ha0 : jis V0 (.inr 4) a0) (hf_k : jfI V0 a0 4 1 k) (hr_md : jfR V0 a0 4 0 md) (hr_of : jfR V0 a0 4 3 of) (hr_ot : jfR V0 a0 4 4 ot) (ha_f : V0 md = some (.inl (4, 16, .inr (.inr (.inr (.inr f)))))) (hf_M : jfI V0 ro 1 0 M) (hf_g : jfI V0 ro 1 5 g) (hf_n : jfI V0 ro 1 6 n) (hr_s : jfR V0 ro 1 1 s) (hr_xx : jfR V0 ro 1 2 xx) (hr_yy : jfR V0 ro 1 3 yy) (hr_zz : jfR V0 ro 1 4 zz) (ha_S : V0 s = some (.inl (6, 60, .inl S))) (ha_X : V0 xx = some (.inl (34, 61, .inl X))) (ha_Y : V0 yy = some (.inl (35, 61, .inl Y))) (ha_Z : V0 zz = some (.inl (36, 61, .inl Z))) (hm_ro : M.toInt = 60) (hn_ro : n.toInt ≤ 60) (hfo : f x1.toInt.toNat = some ro) (hf_MB : jfI V0 rb 1 0 MB) (hf_gB : jfI V0 rb 1 5 gB) (hf_nB : jfI V0 rb 1 6 nB) (hr_sB : jfR V0 rb 1 1 sB) (hr_xxB : jfR V0 rb 1 2 xxB) (hr_yyB : jfR V0 rb 1 3 yyB) (hr_zzB : jfR V0 rb 1 4 zzB) (ha_SB : V0 sB = some (.inl (6, 60, .inl SB))) (ha_XB : V0 xxB = some (.inl (34, 61, .inl XB))) (ha_YB : V0 yyB = some (.inl (35, 61, .inl YB))) (ha_ZB : V0 zzB = some (.inl (36, 61, .inl ZB))) (hm_rb : MB.toInt = 60) (hn_rb : nB.toInt ≤ 60) (hfb : f x2.toInt.toNat = some rb) (hOT : ∀ b ∈ [ot], b ∉ [of]) (hTO : ∀ b ∈ [of], b ∉ [ot]) (ha_OF : V0 of = some (.inl (7, 60, .inl OF))) (ha_OT : V0 ot = some (.inl (7, 60, .inl OT))) (hp0 : 0 ≤ x1.toInt) (hp1 : x1.toInt < k.toInt) (hp2 : 0 ≤ x2.toInt) (hp3 : x2.toInt < k.toInt) (hp4 : 0 ≤ g.toInt) (hp5 : g.toInt ≤ 3) (hp6 : g.toInt = gB.toInt) (hp7 : n.toInt = nB.toInt) (hp8 : ∀ j : Nat, (j : Int) < n.toInt → 0 ≤ (S j).toInt ∧ (S j).toInt < jdir g.toInt) (hp9 : ∀ j : Nat, (j : Int) < nB.toInt → 0 ≤ (SB j).toInt ∧ (SB j).toInt < jdir gB.toInt) : jTot tS mX6_alike d [.ref a0, .int x1, .int x2] V0 0 0 (fun r V => (jPost [.inl 7] V0 (fun r _ => ∃ y : Int32, r = some (.int y) ∧ ((-2147483648) ≤ y.toInt) ∧ (y.toInt ≤ 2147483647) ∧ ((y.toInt = 1 ∧ ∀ j : Nat, j < n.toInt.toNat → jbs g.toInt (fun q => (S q).toInt) n.toInt.toNat (2 * jtur g.toInt).toNat j = jbs g.toInt (fun q => (SB q).toInt) n.toInt.toNat (2 * jtur g.toInt).toNat j) ∨ (y.toInt = 0 ∧ ¬ (∀ j : Nat, j < n.toInt.toNat → jbs g.toInt (fun q => (S q).toInt) n.toInt.toNat (2 * jtur g.toInt).toNat j = jbs g.toInt (fun q => (SB q).toInt) n.toInt.toNat (2 * jtur g.toInt).toNat j))))) r V ∧ jfp [of, ot] V0 V) := by
  refine jTot.of_J [some (.ref a0), some (.int x1), some (.int x2), none, none, none] moX6_alike (Nat.le_of_ble_eq_true rfl) rfl ?_
  have hrx1 := j_rng x1
  have hrx2 := j_rng x2
  have he : jeff [.inl 7] V0 V0 := jeff.refl _ _
  have hfp : jfp [of, ot] V0 V0 := jfp.rf
  obtain ⟨fs_a0, hO_a0, hK_a0⟩ := WT_obj hW id ha0
  have hF_k := hf_k.get hO_a0
  have hrk : 0 ≤ k.toInt ∧ k.toInt ≤ 16 := jok_rngI hK_a0 rfl hF_k
  have hF_md := hr_md.get hO_a0
  obtain ⟨w_md, hFq_md, b_md, hbq_md, hb_md⟩ := hK_a0.2 0 (.inr (some (.inl 4))) rfl
  cases hF_md.symm.trans (hFq_md.trans (congrArg some hbq_md))
  have hF_of := hr_of.get hO_a0
  obtain ⟨w_of, hFq_of, b_of, hbq_of, hb_of⟩ := hK_a0.2 3 (.inr (some (.inl 7))) rfl
  cases hF_of.symm.trans (hFq_of.trans (congrArg some hbq_of))
  have hF_ot := hr_ot.get hO_a0
  obtain ⟨w_ot, hFq_ot, b_ot, hbq_ot, hb_ot⟩ := hK_a0.2 4 (.inr (some (.inl 7))) rfl
  cases hF_ot.symm.trans (hFq_ot.trans (congrArg some hbq_ot))
  obtain ⟨hN_OF, hv_OF⟩ := WT_rngI (r := ((-2147483648), 2147483647)) hW id rfl ha_OF
  clear hN_OF
  obtain ⟨hN_OT, hv_OT⟩ := WT_rngI (r := ((-2147483648), 2147483647)) hW id rfl ha_OT
  clear hN_OT
  have hb_ro : jis V0 (.inr 1) ro := by obtain ⟨q1, q2, q3⟩ := hf_M; exact ⟨_, q2, rfl⟩
  obtain ⟨fs_ro, hO_ro, hK_ro⟩ := WT_obj hW id hb_ro
  have hF_M := hf_M.get hO_ro
  have hrM : 0 ≤ M.toInt ∧ M.toInt ≤ 120 := jok_rngI hK_ro rfl hF_M
  have hF_g := hf_g.get hO_ro
  have hrg : (-2147483648) ≤ g.toInt ∧ g.toInt ≤ 2147483647 := jok_rngI hK_ro rfl hF_g
  have hF_n := hf_n.get hO_ro
  have hrn : 0 ≤ n.toInt ∧ n.toInt ≤ 120 := jok_rngI hK_ro rfl hF_n
  have hF_s := hr_s.get hO_ro
  have hb_s : jis V0 (.inl 6) s := ⟨_, ha_S, rfl⟩
  obtain ⟨hN_S, hv_S⟩ := WT_rngI (r := (-2147483648, 2147483647)) hW id rfl ha_S
  clear hN_S
  have hF_xx := hr_xx.get hO_ro
  have hb_xx : jis V0 (.inl 34) xx := ⟨_, ha_X, rfl⟩
  obtain ⟨hN_X, hv_X⟩ := WT_rngI (r := (-2147483648, 2147483647)) hW id rfl ha_X
  clear hN_X
  have hF_yy := hr_yy.get hO_ro
  have hb_yy : jis V0 (.inl 35) yy := ⟨_, ha_Y, rfl⟩
  obtain ⟨hN_Y, hv_Y⟩ := WT_rngI (r := (-2147483648, 2147483647)) hW id rfl ha_Y
  clear hN_Y
  have hF_zz := hr_zz.get hO_ro
  have hb_zz : jis V0 (.inl 36) zz := ⟨_, ha_Z, rfl⟩
  obtain ⟨hN_Z, hv_Z⟩ := WT_rngI (r := (-2147483648, 2147483647)) hW id rfl ha_Z
  clear hN_Z
  have hb_rb : jis V0 (.inr 1) rb := by obtain ⟨q1, q2, q3⟩ := hf_MB; exact ⟨_, q2, rfl⟩
  obtain ⟨fs_rb, hO_rb, hK_rb⟩ := WT_obj hW id hb_rb
  have hF_MB := hf_MB.get hO_rb
  have hrMB : 0 ≤ MB.toInt ∧ MB.toInt ≤ 120 := jok_rngI hK_rb rfl hF_MB
  have hF_gB := hf_gB.get hO_rb
  have hrgB : (-2147483648) ≤ gB.toInt ∧ gB.toInt ≤ 2147483647 := jok_rngI hK_rb rfl hF_gB
  have hF_nB := hf_nB.get hO_rb
  have hrnB : 0 ≤ nB.toInt ∧ nB.toInt ≤ 120 := jok_rngI hK_rb rfl hF_nB
  have hF_sB := hr_sB.get hO_rb
  have hb_sB : jis V0 (.inl 6) sB := ⟨_, ha_SB, rfl⟩
  obtain ⟨hN_SB, hv_SB⟩ := WT_rngI (r := (-2147483648, 2147483647)) hW id rfl ha_SB
  clear hN_SB
  have hF_xxB := hr_xxB.get hO_rb
  have hb_xxB : jis V0 (.inl 34) xxB := ⟨_, ha_XB, rfl⟩
  obtain ⟨hN_XB, hv_XB⟩ := WT_rngI (r := (-2147483648, 2147483647)) hW id rfl ha_XB
  clear hN_XB
  have hF_yyB := hr_yyB.get hO_rb
  have hb_yyB : jis V0 (.inl 35) yyB := ⟨_, ha_YB, rfl⟩
  obtain ⟨hN_YB, hv_YB⟩ := WT_rngI (r := (-2147483648, 2147483647)) hW id rfl ha_YB
  clear hN_YB
  have hF_zzB := hr_zzB.get hO_rb
  have hb_zzB : jis V0 (.inl 36) zzB := ⟨_, ha_ZB, rfl⟩
  obtain ⟨hN_ZB, hv_ZB⟩ := WT_rngI (r := (-2147483648, 2147483647)) hW id rfl ha_ZB
  clear hN_ZB
  refine J_aload_n dX6_alike_0 rfl ?_
  refine J_iload_n dX6_alike_1 rfl ?_
  refine Jw_callV1 (q9 := (RX6, TX6, 7)) moX6_rowOf jw_ml_X6_55 jw_im_X6_rowOf jw_se_X6_rowOf ha0 rfl rfl dX6_alike_2 (w_X6_rowOf_in (d - 1) _ a0 x1 hO_a0 hF_md hF_k ha_f (by omega) (by omega) (by omega) hfo) (by omega) (Nat.zero_le _) (Nat.zero_le _) (Nat.le_of_ble_eq_true rfl) (fun r2 V2 h2 => ?_)
  obtain ⟨rfl, hE2⟩ := h2
  have hE2 := hE2.symm
  subst hE2
  · refine J_astore_n dX6_alike_5 rfl (by decide) ?_
    refine J_aload_n dX6_alike_6 rfl ?_
    refine J_iload_n dX6_alike_7 rfl ?_
    refine Jw_callV1 (q9 := (RX6, TX6, 7)) moX6_rowOf jw_ml_X6_55 jw_im_X6_rowOf jw_se_X6_rowOf ha0 rfl rfl dX6_alike_8 (w_X6_rowOf_in (d - 1) _ a0 x2 hO_a0 hF_md hF_k ha_f (by omega) (by omega) (by omega) hfb) (by omega) (Nat.zero_le _) (Nat.zero_le _) (Nat.le_of_ble_eq_true rfl) (fun r8 V8 h8 => ?_)
    obtain ⟨rfl, hE8⟩ := h8
    have hE8 := hE8.symm
    subst hE8
    · refine J_astore dX6_alike_11 rfl (by decide) ?_
      refine J_aload_n dX6_alike_13 rfl ?_
      refine J_ifnull dX6_alike_14 ?_
      refine J_aload dX6_alike_17 rfl ?_
      refine J_ifnonnull (tgt := 25) dX6_alike_19 (by decide) ?_
      refine J_aload_n dX6_alike_25 rfl ?_
      refine J_get jf_X6_59 dX6_alike_26 hO_ro hF_g ?_
      refine J_aload dX6_alike_29 rfl ?_
      refine J_get jf_X6_59 dX6_alike_31 hO_rb hF_gB ?_
      refine Jz_icmp_eq (tgt := 40) jEq.rf jEq.rf dX6_alike_34 (by decide) (fun c34 => ?_) (fun c34 => ?_)
      · refine J_aload_n dX6_alike_40 rfl ?_
        refine J_get jf_X6_69 dX6_alike_41 hO_ro hF_n ?_
        refine J_aload dX6_alike_44 rfl ?_
        refine J_get jf_X6_69 dX6_alike_46 hO_rb hF_nB ?_
        refine Jz_icmp_eq (tgt := 54) jEq.rf jEq.rf dX6_alike_49 (by decide) (fun c49 => ?_) (fun c49 => ?_)
        · refine J_aload_n dX6_alike_54 rfl ?_
          refine J_aload_n dX6_alike_55 rfl ?_
          refine J_get jf_X6_26 dX6_alike_56 hO_a0 hF_of ?_
          refine J_callS2 moX1_writeForm jw_ml_X6_143 jw_st_X1_writeForm dX6_alike_59 (w_X1_writeForm_z (d - 1) _ ro of M g n s xx yy zz S X Y Z OF (by omega) hW  hb_ro hb_of ⟨_, hO_ro, hF_M⟩ ⟨_, hO_ro, hF_g⟩ ⟨_, hO_ro, hF_n⟩ ⟨_, hO_ro, hF_s⟩ ⟨_, hO_ro, hF_xx⟩ ⟨_, hO_ro, hF_yy⟩ ⟨_, hO_ro, hF_zz⟩ ha_S ha_X ha_Y ha_Z ha_OF (by omega) (by omega) (by omega) (by omega) (by omega) hp8 (by omega)) (by omega) (Nat.zero_le _) (Nat.zero_le _) (Nat.le_of_ble_eq_true rfl) (fun r59 V59 h59 => ?_)
          obtain ⟨h59, hX59_0, hX59_1⟩ := h59
          obtain ⟨hW, hx59, hr59⟩ := h59
          have he := he.trans (hx59.sub (jsub_of rfl))
          have hfp := hfp.trans (hX59_1.sub (fun b hb => by simp only [List.mem_cons, List.not_mem_nil, or_false] at hb ⊢; first | (rcases hb with h9 <;> simp only [h9, true_or, or_true]) | omega))
          have ha0 := ha0.mono hx59.1
          have hb_md := hb_md.mono hx59.1
          have hb_of := hb_of.mono hx59.1
          have hb_ot := hb_ot.mono hx59.1
          have hb_ro := hb_ro.mono hx59.1
          have hb_s := hb_s.mono hx59.1
          have hb_xx := hb_xx.mono hx59.1
          have hb_yy := hb_yy.mono hx59.1
          have hb_zz := hb_zz.mono hx59.1
          have hb_rb := hb_rb.mono hx59.1
          have hb_sB := hb_sB.mono hx59.1
          have hb_xxB := hb_xxB.mono hx59.1
          have hb_yyB := hb_yyB.mono hx59.1
          have hb_zzB := hb_zzB.mono hx59.1
          have hO_a0 := hx59.2 _ _ hO_a0 (jnot_of rfl)
          have hK_a0 := hK_a0.mono hx59.1
          have hO_ro := hx59.2 _ _ hO_ro (jnot_of rfl)
          have hK_ro := hK_ro.mono hx59.1
          have hO_rb := hx59.2 _ _ hO_rb (jnot_of rfl)
          have hK_rb := hK_rb.mono hx59.1
          have ha_OT := (hX59_1 ot (hOT ot List.mem_cons_self)).trans ha_OT
          have ha_S := hx59.2 _ _ ha_S (jnot_of rfl)
          have ha_X := hx59.2 _ _ ha_X (jnot_of rfl)
          have ha_Y := hx59.2 _ _ ha_Y (jnot_of rfl)
          have ha_Z := hx59.2 _ _ ha_Z (jnot_of rfl)
          have ha_SB := hx59.2 _ _ ha_SB (jnot_of rfl)
          have ha_XB := hx59.2 _ _ ha_XB (jnot_of rfl)
          have ha_YB := hx59.2 _ _ ha_YB (jnot_of rfl)
          have ha_ZB := hx59.2 _ _ ha_ZB (jnot_of rfl)
          cases hr59
          obtain ⟨B59, hB59, hb59⟩ := hX59_0
          obtain ⟨hN_B59, hv_B59⟩ := WT_rngI (r := ((-2147483648), 2147483647)) hW id rfl hB59
          clear hN_B59
          refine J_aload dX6_alike_62 rfl ?_
          refine J_aload_n dX6_alike_64 rfl ?_
          refine J_get jf_X6_30 dX6_alike_65 hO_a0 hF_ot ?_
          refine J_callS2 moX1_writeForm jw_ml_X6_143 jw_st_X1_writeForm dX6_alike_68 (w_X1_writeForm_z (d - 1) _ rb ot MB gB nB sB xxB yyB zzB SB XB YB ZB OT (by omega) hW  hb_rb hb_ot ⟨_, hO_rb, hF_MB⟩ ⟨_, hO_rb, hF_gB⟩ ⟨_, hO_rb, hF_nB⟩ ⟨_, hO_rb, hF_sB⟩ ⟨_, hO_rb, hF_xxB⟩ ⟨_, hO_rb, hF_yyB⟩ ⟨_, hO_rb, hF_zzB⟩ ha_SB ha_XB ha_YB ha_ZB ha_OT (by omega) (by omega) (by omega) (by omega) (by omega) hp9 (by omega)) (by omega) (Nat.zero_le _) (Nat.zero_le _) (Nat.le_of_ble_eq_true rfl) (fun r68 V68 h68 => ?_)
          obtain ⟨h68, hX68_0, hX68_1⟩ := h68
          obtain ⟨hW, hx68, hr68⟩ := h68
          have he := he.trans (hx68.sub (jsub_of rfl))
          have hfp := hfp.trans (hX68_1.sub (fun b hb => by simp only [List.mem_cons, List.not_mem_nil, or_false] at hb ⊢; first | (rcases hb with h9 <;> simp only [h9, true_or, or_true]) | omega))
          have ha0 := ha0.mono hx68.1
          have hb_md := hb_md.mono hx68.1
          have hb_of := hb_of.mono hx68.1
          have hb_ot := hb_ot.mono hx68.1
          have hb_ro := hb_ro.mono hx68.1
          have hb_s := hb_s.mono hx68.1
          have hb_xx := hb_xx.mono hx68.1
          have hb_yy := hb_yy.mono hx68.1
          have hb_zz := hb_zz.mono hx68.1
          have hb_rb := hb_rb.mono hx68.1
          have hb_sB := hb_sB.mono hx68.1
          have hb_xxB := hb_xxB.mono hx68.1
          have hb_yyB := hb_yyB.mono hx68.1
          have hb_zzB := hb_zzB.mono hx68.1
          have hO_a0 := hx68.2 _ _ hO_a0 (jnot_of rfl)
          have hK_a0 := hK_a0.mono hx68.1
          have hO_ro := hx68.2 _ _ hO_ro (jnot_of rfl)
          have hK_ro := hK_ro.mono hx68.1
          have hO_rb := hx68.2 _ _ hO_rb (jnot_of rfl)
          have hK_rb := hK_rb.mono hx68.1
          have ha_S := hx68.2 _ _ ha_S (jnot_of rfl)
          have ha_X := hx68.2 _ _ ha_X (jnot_of rfl)
          have ha_Y := hx68.2 _ _ ha_Y (jnot_of rfl)
          have ha_Z := hx68.2 _ _ ha_Z (jnot_of rfl)
          have ha_SB := hx68.2 _ _ ha_SB (jnot_of rfl)
          have ha_XB := hx68.2 _ _ ha_XB (jnot_of rfl)
          have ha_YB := hx68.2 _ _ ha_YB (jnot_of rfl)
          have ha_ZB := hx68.2 _ _ ha_ZB (jnot_of rfl)
          have hB59 := (hX68_1 of (hTO of List.mem_cons_self)).trans hB59
          cases hr68
          obtain ⟨B68, hB68, hb68⟩ := hX68_0
          rw [← hp6, ← hp7] at hb68
          obtain ⟨hN_B68, hv_B68⟩ := WT_rngI (r := ((-2147483648), 2147483647)) hW id rfl hB68
          clear hN_B68
          refine Jz_iconst 0 dX6_alike_71 (by decide) (fun y71 he71 => ?_)
          refine J_istore dX6_alike_72 rfl (by decide) ?_
          have L74 : ∀ (N : Nat) (i5n74 : Int32), (0 ≤ i5n74.toInt ∧ i5n74.toInt ≤ n.toInt) → (∀ j : Nat, (j : Int) < i5n74.toInt → (B59 j).toInt = (B68 j).toInt) → (300 - i5n74.toInt).toNat < N → J tS mX6_alike d 74 [some (.ref a0), some (.int x1), some (.int x2), some (.ref ro), some (.ref rb), some (.int i5n74)] [] V68 0 0 (fun r V => (jPost [.inl 7] V0 (fun r _ => ∃ y : Int32, r = some (.int y) ∧ ((-2147483648) ≤ y.toInt) ∧ (y.toInt ≤ 2147483647) ∧ ((y.toInt = 1 ∧ ∀ j : Nat, j < n.toInt.toNat → jbs g.toInt (fun q => (S q).toInt) n.toInt.toNat (2 * jtur g.toInt).toNat j = jbs g.toInt (fun q => (SB q).toInt) n.toInt.toNat (2 * jtur g.toInt).toNat j) ∨ (y.toInt = 0 ∧ ¬ (∀ j : Nat, j < n.toInt.toNat → jbs g.toInt (fun q => (S q).toInt) n.toInt.toNat (2 * jtur g.toInt).toNat j = jbs g.toInt (fun q => (SB q).toInt) n.toInt.toNat (2 * jtur g.toInt).toNat j))))) r V ∧ jfp [of, ot] V0 V) := by
            intro N
            induction N with
            | zero => intro i5n74  hi5 heq hm; exact absurd hm (Nat.not_lt_zero _)
            | succ N ih =>
              intro i5n74  hi5 heq hm
              have ih74 := ih
              have hri5 := j_rng i5n74
              refine J_iload dX6_alike_74 rfl ?_
              refine J_aload_n dX6_alike_76 rfl ?_
              refine J_get jf_X6_69 dX6_alike_77 hO_ro hF_n ?_
              refine Jz_icmp_ge (tgt := 112) jEq.rf jEq.rf dX6_alike_80 (by decide) (fun c80 => ?_) (fun c80 => ?_)
              · refine Jz_iconst 1 dX6_alike_112 (by decide) (fun y112 he112 => ?_)
                exact J_ret (r := some (.int _)) dX6_alike_113 ⟨rfl, _, rfl, rfl⟩ (⟨⟨hW, he, ⟨_, rfl, (j_rng _).1, (j_rng _).2, (Or.inl ⟨he112.eq, fun j hj => by rw [← hb59 j hj, ← hb68 j hj]; exact heq j (by omega)⟩)⟩⟩, hfp⟩)
              · refine J_aload_n dX6_alike_83 rfl ?_
                refine J_get jf_X6_26 dX6_alike_84 hO_a0 hF_of ?_
                refine J_iload dX6_alike_87 rfl ?_
                refine J_callS2 moX6_cell jw_ml_X6_110 jw_st_X6_cell dX6_alike_89 (w_X6_cell_x (d - 1) _ of i5n74 hB59 (WT_rngI (r := (-2147483648, 2147483647)) hW id rfl hB59).1 rfl (by omega) (by omega)) (by omega) (Nat.zero_le _) (Nat.zero_le _) (Nat.le_of_ble_eq_true rfl) (fun r89 V89 h89 => ?_)
                obtain ⟨⟨y89, rfl, hf89⟩, hE89⟩ := h89
                have hE89 := hE89.symm
                subst hE89
                have hz89 : jEq y89.toInt (B59 (i5n74.toInt).toNat).toInt := by rw [← hf89]; rfl
                clear hf89
                · refine J_aload_n dX6_alike_92 rfl ?_
                  refine J_get jf_X6_30 dX6_alike_93 hO_a0 hF_ot ?_
                  refine J_iload dX6_alike_96 rfl ?_
                  refine J_callS2 moX6_cell jw_ml_X6_110 jw_st_X6_cell dX6_alike_98 (w_X6_cell_x (d - 1) _ ot i5n74 hB68 (WT_rngI (r := (-2147483648, 2147483647)) hW id rfl hB68).1 rfl (by omega) (by omega)) (by omega) (Nat.zero_le _) (Nat.zero_le _) (Nat.le_of_ble_eq_true rfl) (fun r98 V98 h98 => ?_)
                  obtain ⟨⟨y98, rfl, hf98⟩, hE98⟩ := h98
                  have hE98 := hE98.symm
                  subst hE98
                  have hz98 : jEq y98.toInt (B68 (i5n74.toInt).toNat).toInt := by rw [← hf98]; rfl
                  clear hf98
                  · refine Jz_icmp_eq (tgt := 106) hz89 hz98 dX6_alike_101 (by decide) (fun c101 => ?_) (fun c101 => ?_)
                    · refine Jz_iinc 1 dX6_alike_106 rfl rfl (by decide) jEq.rf (by decide) (by omega) (by omega) (fun y106 he106 => ?_)
                      refine J_goto (tgt := 74) dX6_alike_109 (by decide) ?_
                      refine J.mask [true, true, true, true, true, true] ?_
                      exact ih74  y106  (by (try simp only [he106.eq, true_and, and_true]) <;> omega) (fun j hj => by rw [he106.eq] at hj; by_cases h9 : (j : Int) = i5n74.toInt; (have e : j = i5n74.toInt.toNat := by omega); subst e; exact c101; exact heq j (by omega)) (by (try simp only [he106.eq, true_and, and_true]) <;> omega)
                    · refine Jz_iconst 0 dX6_alike_104 (by decide) (fun y104 he104 => ?_)
                      exact J_ret (r := some (.int _)) dX6_alike_105 ⟨rfl, _, rfl, rfl⟩ (⟨⟨hW, he, ⟨_, rfl, (j_rng _).1, (j_rng _).2, (Or.inr ⟨he104.eq, fun z => c101 (by rw [hb59 _ (by omega), hb68 _ (by omega)]; exact z _ (by omega))⟩)⟩⟩, hfp⟩)
          refine J.mask [true, true, true, true, true, true] ?_
          exact L74 _  y71    (by (try simp only [he71.eq, true_and, and_true]) <;> omega) (fun j hj => by rw [he71.eq] at hj; omega) (Nat.lt_succ_self _)
        · exact False.elim (by omega)
      · exact False.elim (by omega)
set_option maxRecDepth 100000 in
set_option maxHeartbeats 4000000 in
theorem w_X2_init {tS : jTS} (d : Nat) (V0 : jH) (p : Nat → Prop) (q : Nat)  (hd : 3 ≤ d) (hW : WTx (fun a => p a ∨ a = q) V0) (hq : V0 q = some (.inr (0, [.null, .int 0, .int 0, .long 0, .int 0, .int 0, .int 0, .int 0, .int 0]))) (hnp : ¬ p q)   : jTot tS mX2_init d [.ref q] V0 1 36 (fun r V => r = none ∧ WTx p V ∧ jeff [.inr 0] V0 V ∧ jis V (.inr 0) q ∧ (jpl0 V q)) := by
  refine jTot.of_J [some (.ref q)] moX2_init (Nat.le_of_ble_eq_true rfl) rfl ?_
  have he : jeff [.inr 0] V0 V0 := jeff.refl _ _
  refine J_aload_n dX2_init_0 rfl ?_
  refine J_objInit jw_ml_X2_5 jw_oi2 jw_oi3 dX2_init_1 (by omega) (Nat.le_of_ble_eq_true rfl) ?_
  refine J_aload_n dX2_init_4 rfl ?_
  refine J_bipush (v := 36) dX2_init_5 (by decide) ?_
  refine Jc_newa (atype := .int) (t := 12) (B := 36) (x := .inl (fun _ => 0)) jw_ac_int rfl (fun _ h => by cases h) (by decide) dX2_init_7 (by decide) (by decide) (by decide) (fun _ _ => rfl) (fun hN => jok_zI rfl (by decide) (by decide) (fun m h => by cases h <;> rfl) hN) (by decide) (by decide) hW (fun b7 V7 hn7 hb7 hk7 hW hx7 => ?_)
  have hz7 := he.1.none hn7
  have he := he.trans (hx7.sub (jsub_of rfl))
  have hq := hk7 _ _ hq
  refine Jc_putF jf_X2_11 jt_X2_0 rfl (fun _ h => by cases h; rfl) dX2_init_9 hq rfl rfl (Nat.le_of_ble_eq_true rfl) (fun _ h => by cases h) hW (fun V9 hq hW hx9 hB9 => ?_)
  have he := he.trans (hx9.sub (jsub_of rfl))
  have hb7 := hb7.mono hx9.1
  refine J_aload_n dX2_init_12 rfl ?_
  refine J_iconst (v := 2) dX2_init_13 (by decide) ?_
  refine Jc_put jf_X2_15 jt_X2_1 dX2_init_14 hq rfl rfl (Nat.le_of_ble_eq_true rfl) (fun _ h => by cases h) hW (fun V14 hq hW hx14 hB14 => ?_)
  have he := he.trans (hx14.sub (jsub_of rfl))
  have hb7 := hb7.mono hx14.1
  refine J_aload_n dX2_init_17 rfl ?_
  refine J_iconst (v := 2) dX2_init_18 (by decide) ?_
  refine Jc_put jf_X2_19 jt_X2_2 dX2_init_19 hq rfl rfl (Nat.le_of_ble_eq_true rfl) (fun _ h => by cases h) hW (fun V19 hq hW hx19 hB19 => ?_)
  have he := he.trans (hx19.sub (jsub_of rfl))
  have hb7 := hb7.mono hx19.1
  refine J_aload_n dX2_init_22 rfl ?_
  refine J_lconst (v := 0) dX2_init_23 rfl ?_
  refine Jc_put jf_X2_22 jt_X2_3 dX2_init_24 hq rfl rfl (Nat.le_of_ble_eq_true rfl) (fun _ h => by cases h) hW (fun V24 hq hW hx24 hB24 => ?_)
  have he := he.trans (hx24.sub (jsub_of rfl))
  have hb7 := hb7.mono hx24.1
  refine J_aload_n dX2_init_27 rfl ?_
  refine J_iconst (v := 0) dX2_init_28 (by decide) ?_
  refine Jc_put jf_X2_26 jt_X2_4 dX2_init_29 hq rfl rfl (Nat.le_of_ble_eq_true rfl) (fun _ h => by cases h) hW (fun V29 hq hW hx29 hB29 => ?_)
  have he := he.trans (hx29.sub (jsub_of rfl))
  have hb7 := hb7.mono hx29.1
  refine J_aload_n dX2_init_32 rfl ?_
  refine J_iconst (v := 0) dX2_init_33 (by decide) ?_
  refine Jc_put jf_X2_29 jt_X2_5 dX2_init_34 hq rfl rfl (Nat.le_of_ble_eq_true rfl) (fun _ h => by cases h) hW (fun V34 hq hW hx34 hB34 => ?_)
  have he := he.trans (hx34.sub (jsub_of rfl))
  have hb7 := hb7.mono hx34.1
  refine J_aload_n dX2_init_37 rfl ?_
  refine J_iconst (v := 0) dX2_init_38 (by decide) ?_
  refine Jc_put jf_X2_32 jt_X2_6 dX2_init_39 hq rfl rfl (Nat.le_of_ble_eq_true rfl) (fun _ h => by cases h) hW (fun V39 hq hW hx39 hB39 => ?_)
  have he := he.trans (hx39.sub (jsub_of rfl))
  have hb7 := hb7.mono hx39.1
  refine J_aload_n dX2_init_42 rfl ?_
  refine J_iconst (v := 0) dX2_init_43 (by decide) ?_
  refine Jc_put jf_X2_35 jt_X2_7 dX2_init_44 hq rfl rfl (Nat.le_of_ble_eq_true rfl) (fun _ h => by cases h) hW (fun V44 hq hW hx44 hB44 => ?_)
  have he := he.trans (hx44.sub (jsub_of rfl))
  have hb7 := hb7.mono hx44.1
  refine J_aload_n dX2_init_47 rfl ?_
  refine J_iconst (v := 0) dX2_init_48 (by decide) ?_
  refine Jc_put jf_X2_39 jt_X2_8 dX2_init_49 hq rfl rfl (Nat.le_of_ble_eq_true rfl) (fun _ h => by cases h) hW (fun V49 hq hW hx49 hB49 => ?_)
  have he := he.trans (hx49.sub (jsub_of rfl))
  have hb7 := hb7.mono hx49.1
  have hW := hW.fin hq (jokO_cons ⟨_, rfl, hb7⟩ (jokO_cons ⟨_, rfl, (j_rng _).1, (j_rng _).2⟩ (jokO_cons ⟨_, rfl, (j_rng _).1, (j_rng _).2⟩ (jokO_cons ⟨_, rfl⟩ (jokO_cons ⟨_, rfl, (j_rng _).1, (j_rng _).2⟩ (jokO_cons ⟨_, rfl, (j_rng _).1, (j_rng _).2⟩ (jokO_cons ⟨_, rfl, (j_rng _).1, (j_rng _).2⟩ (jokO_cons ⟨_, rfl, by first | decide | assumption | omega, by first | decide | assumption | omega⟩ (jokO_cons ⟨_, rfl, by first | decide | assumption | omega, by first | decide | assumption | omega⟩ (jokO_nil))))))))))
  have hq0 : jis _ (.inr 0) q := ⟨_, hq, rfl⟩
  obtain ⟨fsq, hOq, hFq0⟩ : ∃ fs : List Value, V49 q = some (.inr (0, fs)) ∧ fs[0]? = some (.ref b7) := ⟨_, hq, rfl⟩
  have hKq : jokO V49 (jFs 0) fsq := hW _ _ hnp hOq
  refine J_aload_n dX2_init_52 rfl ?_
  refine J_iconst (v := 2) dX2_init_53 (by decide) ?_
  refine J_iconst (v := 2) dX2_init_54 (by decide) ?_
  refine Jw_callV2 (q9 := (RX2, TX2, 9)) moX2_lay jw_ml_X2_42 jw_im_X2_lay jw_se_X2_lay hq0 rfl rfl dX2_init_55 (w_X2_lay_z (d - 1) _ _ _ _ (by omega) hW hnp hq0 (by decide) (by decide) (by decide) (by decide)) (by omega) (Nat.zero_le _) (Nat.zero_le _) (Nat.le_of_ble_eq_true rfl) (fun r55 V55 h55 => ?_)
  obtain ⟨⟨hW, hx55, hr55⟩, ⟨op55, hop55, hbt55⟩, ⟨w55, hw55, hwe55⟩, ⟨z55, hz55, hze55⟩⟩ := h55
  have he := he.trans (hx55.sub (jsub_of rfl))
  have hq0 := hq0.mono hx55.1
  cases hr55
  · exact J_ret (r := none) dX2_init_58 ⟨rfl, rfl⟩ (⟨rfl, hW, he, hq0, ⟨_, _, _, hw55, hz55, hop55, hwe55, hze55, hbt55⟩⟩)
