set_option maxRecDepth 100000 in
set_option maxHeartbeats 8000000 in
theorem w_X1_countForms_z {tS : jTS} : ∀ (K d : Nat) (V0 : jH) (a0 : Nat) (x1 : Int32) (x2 : Int32) (M : Int32) (g : Int32) (n : Int32) (s : Nat) (xx : Nat) (yy : Nat) (zz : Nat) (S : Nat → Int32) (X : Nat → Int32) (Y : Nat → Int32) (Z : Nat → Int32), 5 + K ≤ d → WT V0 → (jis V0 (.inr 1) a0) → (0 ≤ x2.toInt) → (x2.toInt ≤ 7) → (jfI V0 a0 1 0 M) → (jfI V0 a0 1 5 g) → (jfI V0 a0 1 6 n) → (jfR V0 a0 1 1 s) → (jfR V0 a0 1 2 xx) → (jfR V0 a0 1 3 yy) → (jfR V0 a0 1 4 zz) → (V0 s = some (.inl (6, 120, .inl S))) → (V0 xx = some (.inl (34, 121, .inl X))) → (V0 yy = some (.inl (35, 121, .inl Y))) → (V0 zz = some (.inl (36, 121, .inl Z))) → (M.toInt = 120) → (0 ≤ g.toInt) → (g.toInt ≤ 3) → (n.toInt = x2.toInt) → (x2.toInt ≤ x1.toInt) → (x1.toInt ≤ 7) → (∀ j : Nat, (j : Int) < n.toInt → 0 ≤ (S j).toInt ∧ (S j).toInt < jdir g.toInt) → (jrv g.toInt (fun q => (S q).toInt) n.toInt.toNat X Y Z) → (jav g.toInt (fun q => (S q).toInt) n.toInt.toNat) → (8 - x2.toInt).toNat < K → jTot tS mX1_countForms d [.ref a0, .int x1, .int x2] V0 0 0 (fun r V => (jPost [.inr 1, .inl 6, .inl 34, .inl 35, .inl 36] V0 (fun r _ => ∃ y : Int32, r = some (.int y) ∧ ((-2147483648) ≤ y.toInt) ∧ (y.toInt ≤ 2147483647) ∧ (y.toInt = ((jfc g.toInt x1.toInt.toNat (x1.toInt - x2.toInt).toNat (fun q => (S q).toInt) : Nat) : Int)))) r V ∧ (∃ S2 X2 Y2 Z2 : Nat → Int32, V s = some (.inl (6, 120, .inl S2)) ∧ V xx = some (.inl (34, 121, .inl X2)) ∧ V yy = some (.inl (35, 121, .inl Y2)) ∧ V zz = some (.inl (36, 121, .inl Z2)) ∧ (∀ j : Nat, (j : Int) < n.toInt → S2 j = S j) ∧ ∀ j : Nat, (j : Int) ≤ n.toInt → X2 j = X j ∧ Y2 j = Y j ∧ Z2 j = Z j) ∧ jrk a0 V0 V ∧ jfp [a0, s, xx, yy, zz] V0 V ∧ (∃ n2 : Int32, jfI V a0 1 6 n2 ∧ (n2.toInt = n.toInt)) ∧ (∃ M2 : Int32, jfI V a0 1 0 M2 ∧ (M2.toInt = M.toInt)) ∧ (∃ g2 : Int32, jfI V a0 1 5 g2 ∧ (g2.toInt = g.toInt))) := by
  intro K
  induction K with
  | zero => intro d V0 a0 x1 x2 M g n s xx yy zz S X Y Z hd hW ha0 hl2 hh2 hf_M hf_g hf_n hr_s hr_xx hr_yy hr_zz ha_S ha_X ha_Y ha_Z hp0 hp1 hp2 hp3 hp4 hp5 hp6 hp7 hp8 hrk; exact absurd hrk (Nat.not_lt_zero _)
  | succ K IH =>
  intro d V0 a0 x1 x2 M g n s xx yy zz S X Y Z hd hW ha0 hl2 hh2 hf_M hf_g hf_n hr_s hr_xx hr_yy hr_zz ha_S ha_X ha_Y ha_Z hp0 hp1 hp2 hp3 hp4 hp5 hp6 hp7 hp8 hrk
  refine jTot.of_J [some (.ref a0), some (.int x1), some (.int x2), none, none] moX1_countForms (Nat.le_of_ble_eq_true rfl) rfl ?_
  have hrx1 := j_rng x1
  have he : jeff [.inr 1, .inl 6, .inl 34, .inl 35, .inl 36] V0 V0 := jeff.refl _ _
  have hfp : jfp [a0, s, xx, yy, zz] V0 V0 := jfp.rf
  obtain ⟨fs_a0, hO_a0, hK_a0⟩ := WT_obj hW id ha0
  have hF_M := hf_M.get hO_a0
  have hrM : 0 ≤ M.toInt ∧ M.toInt ≤ 120 := jok_rngI hK_a0 rfl hF_M
  have hF_g := hf_g.get hO_a0
  have hrg : (-2147483648) ≤ g.toInt ∧ g.toInt ≤ 2147483647 := jok_rngI hK_a0 rfl hF_g
  have hF_n := hf_n.get hO_a0
  have hrn : 0 ≤ n.toInt ∧ n.toInt ≤ 120 := jok_rngI hK_a0 rfl hF_n
  have hF_s := hr_s.get hO_a0
  obtain ⟨w_s, hFq_s, b_s, hbq_s, hb_s⟩ := hK_a0.2 1 (.inr (some (.inl 6))) rfl
  cases hF_s.symm.trans (hFq_s.trans (congrArg some hbq_s))
  have hF_xx := hr_xx.get hO_a0
  obtain ⟨w_xx, hFq_xx, b_xx, hbq_xx, hb_xx⟩ := hK_a0.2 2 (.inr (some (.inl 34))) rfl
  cases hF_xx.symm.trans (hFq_xx.trans (congrArg some hbq_xx))
  have hF_yy := hr_yy.get hO_a0
  obtain ⟨w_yy, hFq_yy, b_yy, hbq_yy, hb_yy⟩ := hK_a0.2 3 (.inr (some (.inl 35))) rfl
  cases hF_yy.symm.trans (hFq_yy.trans (congrArg some hbq_yy))
  have hF_zz := hr_zz.get hO_a0
  obtain ⟨w_zz, hFq_zz, b_zz, hbq_zz, hb_zz⟩ := hK_a0.2 4 (.inr (some (.inl 36))) rfl
  cases hF_zz.symm.trans (hFq_zz.trans (congrArg some hbq_zz))
  obtain ⟨hN_S, hv_S⟩ := WT_rngI (r := ((-2147483648), 2147483647)) hW id rfl ha_S
  clear hN_S
  obtain ⟨hN_X, hv_X⟩ := WT_rngI (r := ((-2147483648), 2147483647)) hW id rfl ha_X
  clear hN_X
  obtain ⟨hN_Y, hv_Y⟩ := WT_rngI (r := ((-2147483648), 2147483647)) hW id rfl ha_Y
  clear hN_Y
  obtain ⟨hN_Z, hv_Z⟩ := WT_rngI (r := ((-2147483648), 2147483647)) hW id rfl ha_Z
  clear hN_Z
  have ha0_S := ha_S
  have ha0_X := ha_X
  have ha0_Y := ha_Y
  have ha0_Z := ha_Z
  have hjb : 3 ≤ jdir g.toInt ∧ jdir g.toInt ≤ 6 := by have q := jdir_cases g.toInt; omega
  refine J_iload_n dX1_countForms_0 rfl ?_
  refine J_iload_n dX1_countForms_1 rfl ?_
  refine Jz_icmp_ge (tgt := 11) jEq.rf jEq.rf dX1_countForms_2 (by decide) (fun c2 => ?_) (fun c2 => ?_)
  · refine J_aload_n dX1_countForms_11 rfl ?_
    refine J_callS1 moX1_isOwnForm jw_ml_X1_61 jw_st_X1_isOwnForm dX1_countForms_12 (w_X1_isOwnForm_z (d - 1) _ a0 M g n s xx yy zz S X Y Z (by omega) hW  ha0 ⟨_, hO_a0, hF_M⟩ ⟨_, hO_a0, hF_g⟩ ⟨_, hO_a0, hF_n⟩ ⟨_, hO_a0, hF_s⟩ ⟨_, hO_a0, hF_xx⟩ ⟨_, hO_a0, hF_yy⟩ ⟨_, hO_a0, hF_zz⟩ ha_S ha_X ha_Y ha_Z (by omega) (by omega) (by omega) (by omega) (by omega) hp6 (by omega)) (by omega) (Nat.zero_le _) (Nat.zero_le _) (Nat.le_of_ble_eq_true rfl) (fun r12 V12 h12 => ?_)
    obtain ⟨⟨y12, rfl, hl12, hh12, hP12_0⟩, hE12⟩ := h12
    have hE12 := hE12.symm
    subst hE12
    refine Jz_if_eq (tgt := 22) jEq.rf dX1_countForms_15 (by decide) (fun c15 => ?_) (fun c15 => ?_)
    · refine Jz_iconst 0 dX1_countForms_22 (by decide) (fun y22 he22 => ?_)
      exact J_ret (r := some (.int _)) dX1_countForms_23 ⟨rfl, _, rfl, rfl⟩ (⟨⟨hW, he, ⟨_, rfl, (j_rng _).1, (j_rng _).2, (by have q := hP12_0.elim (fun q => absurd q.1 (by omega)) (fun q => q.2); rw [show n.toInt.toNat = x1.toInt.toNat by omega] at q; rw [he22.eq, show (x1.toInt - x2.toInt).toNat = 0 by omega, jfc_0, jone_no q]; rfl)⟩⟩, ⟨S, X, Y, Z, ha_S, ha_X, ha_Y, ha_Z, fun _ _ => rfl, fun _ _ => ⟨rfl, rfl, rfl⟩⟩, (jrk.mk hr_s hr_xx hr_yy hr_zz hfp hf_M ⟨_, hO_a0, hF_M⟩ (jk1.mk ha0_S ha_S) (jk0.mk ha0_X ha_X rfl) (jk0.mk ha0_Y ha_Y rfl) (jk0.mk ha0_Z ha_Z rfl)), hfp, ⟨_, ⟨_, hO_a0, hF_n⟩, (by omega)⟩, ⟨_, ⟨_, hO_a0, hF_M⟩, (by omega)⟩, ⟨_, ⟨_, hO_a0, hF_g⟩, (by omega)⟩⟩)
    · refine Jz_iconst 1 dX1_countForms_18 (by decide) (fun y18 he18 => ?_)
      refine J_goto (tgt := 23) dX1_countForms_19 (by decide) ?_
      exact J_ret (r := some (.int _)) dX1_countForms_23 ⟨rfl, _, rfl, rfl⟩ (⟨⟨hW, he, ⟨_, rfl, (j_rng _).1, (j_rng _).2, (by have q := hP12_0.elim (fun q => q.2) (fun q => absurd q.1 (by omega)); rw [show n.toInt.toNat = x1.toInt.toNat by omega] at q; rw [he18.eq, show (x1.toInt - x2.toInt).toNat = 0 by omega, jfc_0, jone_yes q]; rfl)⟩⟩, ⟨S, X, Y, Z, ha_S, ha_X, ha_Y, ha_Z, fun _ _ => rfl, fun _ _ => ⟨rfl, rfl, rfl⟩⟩, (jrk.mk hr_s hr_xx hr_yy hr_zz hfp hf_M ⟨_, hO_a0, hF_M⟩ (jk1.mk ha0_S ha_S) (jk0.mk ha0_X ha_X rfl) (jk0.mk ha0_Y ha_Y rfl) (jk0.mk ha0_Z ha_Z rfl)), hfp, ⟨_, ⟨_, hO_a0, hF_n⟩, (by omega)⟩, ⟨_, ⟨_, hO_a0, hF_M⟩, (by omega)⟩, ⟨_, ⟨_, hO_a0, hF_g⟩, (by omega)⟩⟩)
  · refine J_iload_n dX1_countForms_5 rfl ?_
    refine Jz_bipush 7 dX1_countForms_6 (by decide) (fun y6 he6 => ?_)
    refine Jz_icmp_lt (tgt := 24) jEq.rf he6 dX1_countForms_8 (by decide) (fun c8 => ?_) (fun c8 => (show False by omega).elim)
    refine Jz_iconst 0 dX1_countForms_24 (by decide) (fun y24 he24 => ?_)
    refine J_istore_n dX1_countForms_25 rfl (by decide) ?_
    refine Jz_iconst 0 dX1_countForms_26 (by decide) (fun y26 he26 => ?_)
    refine J_istore dX1_countForms_27 rfl (by decide) ?_
    have L29 : ∀ (N : Nat) (V : jH) (i3n29 : Int32) (i4n29 : Int32) (gs29a0 : List Value) (g6n29 : Int32) (F6n29 : Nat → Int32) (F34n29 : Nat → Int32) (F35n29 : Nat → Int32) (F36n29 : Nat → Int32), WT V → jeff [.inr 1, .inl 6, .inl 34, .inl 35, .inl 36] V0 V → (jis V (.inr 1) a0) → (jis V (.inl 6) s) → (jis V (.inl 34) xx) → (jis V (.inl 35) yy) → (jis V (.inl 36) zz) → (jfp [a0, s, xx, yy, zz] V0 V) → (V a0 = some (.inr (1, gs29a0))) → (gs29a0[0]? = some (.int M)) → (gs29a0[5]? = some (.int g)) → (gs29a0[6]? = some (.int g6n29)) → (gs29a0[1]? = some (.ref s)) → (gs29a0[2]? = some (.ref xx)) → (gs29a0[3]? = some (.ref yy)) → (gs29a0[4]? = some (.ref zz)) → (V s = some (.inl (6, 120, .inl F6n29))) → (V xx = some (.inl (34, 121, .inl F34n29))) → (V yy = some (.inl (35, 121, .inl F35n29))) → (V zz = some (.inl (36, 121, .inl F36n29))) → (0 ≤ i4n29.toInt ∧ i4n29.toInt ≤ jdir g.toInt) → (g6n29.toInt = x2.toInt) → (∀ j : Nat, (j : Int) < x2.toInt → F6n29 j = S j) → (∀ j : Nat, (j : Int) ≤ x2.toInt → F34n29 j = X j ∧ F35n29 j = Y j ∧ F36n29 j = Z j) → (i3n29.toInt = ((jsu (jfd g.toInt x1.toInt.toNat (x1.toInt - x2.toInt - 1).toNat x2.toInt.toNat (fun q => (S q).toInt)) i4n29.toInt.toNat : Nat) : Int)) → (300 - i4n29.toInt).toNat < N → J tS mX1_countForms d 29 [some (.ref a0), some (.int x1), some (.int x2), some (.int i3n29), some (.int i4n29)] [] V 0 0 (fun r V => (jPost [.inr 1, .inl 6, .inl 34, .inl 35, .inl 36] V0 (fun r _ => ∃ y : Int32, r = some (.int y) ∧ ((-2147483648) ≤ y.toInt) ∧ (y.toInt ≤ 2147483647) ∧ (y.toInt = ((jfc g.toInt x1.toInt.toNat (x1.toInt - x2.toInt).toNat (fun q => (S q).toInt) : Nat) : Int)))) r V ∧ (∃ S2 X2 Y2 Z2 : Nat → Int32, V s = some (.inl (6, 120, .inl S2)) ∧ V xx = some (.inl (34, 121, .inl X2)) ∧ V yy = some (.inl (35, 121, .inl Y2)) ∧ V zz = some (.inl (36, 121, .inl Z2)) ∧ (∀ j : Nat, (j : Int) < n.toInt → S2 j = S j) ∧ ∀ j : Nat, (j : Int) ≤ n.toInt → X2 j = X j ∧ Y2 j = Y j ∧ Z2 j = Z j) ∧ jrk a0 V0 V ∧ jfp [a0, s, xx, yy, zz] V0 V ∧ (∃ n2 : Int32, jfI V a0 1 6 n2 ∧ (n2.toInt = n.toInt)) ∧ (∃ M2 : Int32, jfI V a0 1 0 M2 ∧ (M2.toInt = M.toInt)) ∧ (∃ g2 : Int32, jfI V a0 1 5 g2 ∧ (g2.toInt = g.toInt))) := by
      intro N
      induction N with
      | zero => intro V i3n29 i4n29 gs29a0 g6n29 F6n29 F34n29 F35n29 F36n29 hW he ha0 hb_s hb_xx hb_yy hb_zz hfp hOgs29a0 hFgs29a0_0 hFgs29a0_5 hFgs29a0_6 hFgs29a0_1 hFgs29a0_2 hFgs29a0_3 hFgs29a0_4 hAF6n29 hAF34n29 hAF35n29 hAF36n29 hi4 hsz hS hXYZ hfd hm; exact absurd hm (Nat.not_lt_zero _)
      | succ N ih =>
        intro V i3n29 i4n29 gs29a0 g6n29 F6n29 F34n29 F35n29 F36n29 hW he ha0 hb_s hb_xx hb_yy hb_zz hfp hOgs29a0 hFgs29a0_0 hFgs29a0_5 hFgs29a0_6 hFgs29a0_1 hFgs29a0_2 hFgs29a0_3 hFgs29a0_4 hAF6n29 hAF34n29 hAF35n29 hAF36n29 hi4 hsz hS hXYZ hfd hm
        have ih29 := ih
        have hri4 := j_rng i4n29
        have hKgs29a0 : jokO V (jFs 1) gs29a0 := hW _ _ id hOgs29a0
        have hrgg6n29 : 0 ≤ g6n29.toInt ∧ g6n29.toInt ≤ 120 := jok_rngI hKgs29a0 rfl hFgs29a0_6
        obtain ⟨hNF6n29, hvF6n29⟩ := WT_rngI (r := ((-2147483648), 2147483647)) hW id rfl hAF6n29
        clear hNF6n29
        obtain ⟨hNF34n29, hvF34n29⟩ := WT_rngI (r := ((-2147483648), 2147483647)) hW id rfl hAF34n29
        clear hNF34n29
        obtain ⟨hNF35n29, hvF35n29⟩ := WT_rngI (r := ((-2147483648), 2147483647)) hW id rfl hAF35n29
        clear hNF35n29
        obtain ⟨hNF36n29, hvF36n29⟩ := WT_rngI (r := ((-2147483648), 2147483647)) hW id rfl hAF36n29
        clear hNF36n29
        refine J_iload dX1_countForms_29 rfl ?_
        refine J_aload_n dX1_countForms_31 rfl ?_
        refine J_get jf_X1_23 dX1_countForms_32 hOgs29a0 hFgs29a0_5 ?_
        refine J_callS1 moX0_directions jw_ml_X1_65 jw_st_X0_directions dX1_countForms_35 (w_X0_directions_z (d - 1) _ g (by omega)   ) (by omega) (Nat.zero_le _) (Nat.zero_le _) (Nat.le_of_ble_eq_true rfl) (fun r35 V35 h35 => ?_)
        obtain ⟨⟨y35, rfl, hl35, hh35, hP35_0⟩, hE35⟩ := h35
        have hE35 := hE35.symm
        subst hE35
        have hz35 : jEq y35.toInt (jdir (g.toInt)) := hP35_0
        simp only [hP35_0] at hl35 hh35
        clear hP35_0
        refine Jz_icmp_ge (tgt := 72) jEq.rf hz35 dX1_countForms_38 (by decide) (fun c38 => ?_) (fun c38 => ?_)
        · refine J_iload_n dX1_countForms_72 rfl ?_
          exact J_ret (r := some (.int _)) dX1_countForms_73 ⟨rfl, _, rfl, rfl⟩ (⟨⟨hW, he, ⟨_, rfl, (j_rng _).1, (j_rng _).2, (by rw [hfd, show i4n29.toInt.toNat = (jdir g.toInt).toNat by omega, show (x1.toInt - x2.toInt).toNat = (x1.toInt - x2.toInt - 1).toNat + 1 by omega, jfc_step2 (N := x2.toInt.toNat) (by omega)])⟩⟩, ⟨F6n29, F34n29, F35n29, F36n29, hAF6n29, hAF34n29, hAF35n29, hAF36n29, fun j hj => hS j (by omega), fun j hj => hXYZ j (by omega)⟩, (jrk.mk hr_s hr_xx hr_yy hr_zz hfp hf_M ⟨_, hOgs29a0, hFgs29a0_0⟩ (jk1.mk ha0_S hAF6n29) (jk0.mk ha0_X hAF34n29 ((hXYZ 0 (by omega)).1)) (jk0.mk ha0_Y hAF35n29 ((hXYZ 0 (by omega)).2.1)) (jk0.mk ha0_Z hAF36n29 ((hXYZ 0 (by omega)).2.2))), hfp, ⟨_, ⟨_, hOgs29a0, hFgs29a0_6⟩, (by omega)⟩, ⟨_, ⟨_, hOgs29a0, hFgs29a0_0⟩, (by omega)⟩, ⟨_, ⟨_, hOgs29a0, hFgs29a0_5⟩, (by omega)⟩⟩)
        · refine J_aload_n dX1_countForms_41 rfl ?_
          refine J_iload dX1_countForms_42 rfl ?_
          have hN9 : g6n29.toInt.toNat = x2.toInt.toNat := by rw [hsz]
          have hjv2 : jrv g.toInt (fun q => (F6n29 q).toInt) g6n29.toInt.toNat F34n29 F35n29 F36n29 := jrv.copy hp7 (by omega) (fun q hq => (congrArg Int32.toInt (hS q (by omega))).symm) (fun i hi => hXYZ i (by omega))
          have hja2 : jav g.toInt (fun q => (F6n29 q).toInt) g6n29.toInt.toNat := by
            rw [show g6n29.toInt.toNat = n.toInt.toNat by omega]
            exact hp8.congr (fun q hq => (congrArg Int32.toInt (hS q (by omega))).symm)
          have hbx := hjv2.b g6n29.toInt.toNat (Nat.le_refl _)
          have e2 : ((i4n29.toInt.toNat : Nat) : Int) = i4n29.toInt := Int.toNat_of_nonneg (by omega)
          by_cases hcc : jav g.toInt (jsat (fun q => (F6n29 q).toInt) g6n29.toInt.toNat i4n29.toInt) (g6n29.toInt.toNat + 1)
          · refine Jw_callV1 (q9 := (RX3, TX3, 7)) moX3_lay jw_ml_X1_68 jw_im_X3_lay jw_se_X3_lay ha0 rfl rfl dX1_countForms_44 (w_X3_lay_yes (d - 1) _ a0 i4n29 M g g6n29 s xx yy zz F6n29 F34n29 F35n29 F36n29 (by omega) hW  ha0 ⟨_, hOgs29a0, hFgs29a0_0⟩ ⟨_, hOgs29a0, hFgs29a0_5⟩ ⟨_, hOgs29a0, hFgs29a0_6⟩ ⟨_, hOgs29a0, hFgs29a0_1⟩ ⟨_, hOgs29a0, hFgs29a0_2⟩ ⟨_, hOgs29a0, hFgs29a0_3⟩ ⟨_, hOgs29a0, hFgs29a0_4⟩ hAF6n29 hAF34n29 hAF35n29 hAF36n29 (by omega) (by omega) (by omega) (by omega) (by omega) (by omega) (by omega) (by omega) (by omega) (by omega) (by omega) (by omega) (by omega) (by omega) (fun j hj => (jnx_iff hjv2 hja2).mpr hcc j (by omega))) (by omega) (Nat.zero_le _) (Nat.zero_le _) (Nat.le_of_ble_eq_true rfl) (fun r44 V44 h44 => ?_)
            obtain ⟨h44, hX44_0, hX44_1, hX44_2, hX44_3, hX44_4, ⟨fv44_0, hfv44_0, hfp44_0⟩, ⟨fv44_1, hfv44_1, hfp44_1⟩, ⟨fv44_2, hfv44_2, hfp44_2⟩⟩ := h44
            obtain ⟨hW, hx44, hr44⟩ := h44
            have he := he.trans (hx44.sub (jsub_of rfl))
            have hfp := hfp.trans (hX44_4.sub (fun b hb => by simp only [List.mem_cons, List.not_mem_nil, or_false] at hb ⊢; first | (rcases hb with h9 | h9 | h9 | h9 | h9 <;> simp only [h9, true_or, or_true]) | omega))
            have ha0 := ha0.mono hx44.1
            have hb_s := hb_s.mono hx44.1
            have hb_xx := hb_xx.mono hx44.1
            have hb_yy := hb_yy.mono hx44.1
            have hb_zz := hb_zz.mono hx44.1
            obtain ⟨fs44a0, hOfs44a0, hRfs44a0⟩ := hx44.1.keep hOgs29a0
            have hKfs44a0 : jokO _ (jFs 1) fs44a0 := hW _ _ id hOfs44a0
            have hFfs44a0_1 := hRfs44a0 _ _ hFgs29a0_1
            have hFfs44a0_2 := hRfs44a0 _ _ hFgs29a0_2
            have hFfs44a0_3 := hRfs44a0 _ _ hFgs29a0_3
            have hFfs44a0_4 := hRfs44a0 _ _ hFgs29a0_4
            obtain ⟨y44, rfl, hl44, hh44, hP44_0⟩ := hr44
            have hFv44_0 := hfv44_0.get hOfs44a0
            have hzf44_0 : jEq fv44_0.toInt ((g6n29.toInt) + 1) := hfp44_0
            clear hfp44_0
            have hFv44_1 := hfv44_1.get hOfs44a0
            have hsb44_1 : M = fv44_1 := (jI_inj.mp hfp44_1).symm
            subst hsb44_1
            have hFv44_2 := hfv44_2.get hOfs44a0
            have hsb44_2 : g = fv44_2 := (jI_inj.mp hfp44_2).symm
            subst hsb44_2
            obtain ⟨S44, hS44, hSn44, hSo44⟩ := hX44_0
            obtain ⟨X44, hXa44, hXn44, hXo44⟩ := hX44_1
            obtain ⟨Y44, hYa44, hYn44, hYo44⟩ := hX44_2
            obtain ⟨Z44, hZa44, hZn44, hZo44⟩ := hX44_3
            have hlk := jlay_ok hjv2 hSn44 hSo44 hXn44 hYn44 hZn44 hXo44 hYo44 hZo44
            have hsq : ∀ q : Nat, q < x2.toInt.toNat + 1 → jsat (fun q => (S q).toInt) x2.toInt.toNat i4n29.toInt q = (S44 q).toInt := fun q hq => by
              by_cases c : q = x2.toInt.toNat
              · rw [c, jsat_at, ← hN9, hSn44]
              · rw [jsat_ne c]
                show (S q).toInt = (S44 q).toInt
                rw [hSo44 q (by omega), hS q (by omega)]
            have hjc : jav g.toInt (jsat (fun q => (S q).toInt) x2.toInt.toNat i4n29.toInt) (x2.toInt.toNat + 1) := by
              have q := hcc
              rw [hN9] at q
              exact q.congr (jsat_congr (fun q hq => congrArg Int32.toInt (hS q (by omega))))
            obtain ⟨hN_S44, hv_S44⟩ := WT_rngI (r := ((-2147483648), 2147483647)) hW id rfl hS44
            clear hN_S44
            obtain ⟨hN_X44, hv_X44⟩ := WT_rngI (r := ((-2147483648), 2147483647)) hW id rfl hXa44
            clear hN_X44
            obtain ⟨hN_Y44, hv_Y44⟩ := WT_rngI (r := ((-2147483648), 2147483647)) hW id rfl hYa44
            clear hN_Y44
            obtain ⟨hN_Z44, hv_Z44⟩ := WT_rngI (r := ((-2147483648), 2147483647)) hW id rfl hZa44
            clear hN_Z44
            refine Jz_if_eq (tgt := 66) jEq.rf dX1_countForms_47 (by decide) (fun c47 => (show False by omega).elim) (fun c47 => ?_)
            refine J_iload_n dX1_countForms_50 rfl ?_
            refine J_aload_n dX1_countForms_51 rfl ?_
            refine J_iload_n dX1_countForms_52 rfl ?_
            refine J_iload_n dX1_countForms_53 rfl ?_
            refine Jz_iconst 1 dX1_countForms_54 (by decide) (fun y54 he54 => ?_)
            refine Jz_iadd jEq.rf he54 dX1_countForms_55 (by omega) (by omega) (fun y55 he55 => ?_)
            refine J_callS3 moX1_countForms jw_ml_X1_72 jw_st_X1_countForms dX1_countForms_56 (IH (d - 1) _ a0 x1 y55 M g fv44_0 s xx yy zz S44 X44 Y44 Z44 (by omega) hW ha0 (by (try simp only [he55.eq, true_and, and_true]) <;> omega) (by (try simp only [he55.eq, true_and, and_true]) <;> omega) ⟨_, hOfs44a0, hFv44_1⟩ ⟨_, hOfs44a0, hFv44_2⟩ ⟨_, hOfs44a0, hFv44_0⟩ ⟨_, hOfs44a0, hFfs44a0_1⟩ ⟨_, hOfs44a0, hFfs44a0_2⟩ ⟨_, hOfs44a0, hFfs44a0_3⟩ ⟨_, hOfs44a0, hFfs44a0_4⟩ hS44 hXa44 hYa44 hZa44 (by omega) (by omega) (by omega) (by rw [hzf44_0.eq, he55.eq]; omega) (by rw [he55.eq]; omega) (by omega) (fun j hj => by rw [hzf44_0.eq] at hj; rw [← hsq j (by omega)]; by_cases c : j = x2.toInt.toNat; (rw [c, jsat_at]; exact ⟨by omega, by omega⟩); (rw [jsat_ne c]; exact hp6 j (by omega))) (by rw [hzf44_0.eq, show (g6n29.toInt + 1).toNat = g6n29.toInt.toNat + 1 by omega]; exact hlk.1) (by rw [hzf44_0.eq, show (g6n29.toInt + 1).toNat = x2.toInt.toNat + 1 by omega]; exact hjc.congr hsq) (by (try simp only [he55.eq, hzf44_0.eq, true_and, and_true]) <;> omega)) (by omega) (Nat.zero_le _) (Nat.zero_le _) (Nat.le_of_ble_eq_true rfl) (fun r56 V56 h56 => ?_)
            obtain ⟨h56, hX56_0, hX56_1, hX56_2, ⟨fv56_0, hfv56_0, hfp56_0⟩, ⟨fv56_1, hfv56_1, hfp56_1⟩, ⟨fv56_2, hfv56_2, hfp56_2⟩⟩ := h56
            obtain ⟨hW, hx56, hr56⟩ := h56
            have he := he.trans (hx56.sub (jsub_of rfl))
            have hfp := hfp.trans (hX56_2.sub (fun b hb => by simp only [List.mem_cons, List.not_mem_nil, or_false] at hb ⊢; first | (rcases hb with h9 | h9 | h9 | h9 | h9 <;> simp only [h9, true_or, or_true]) | omega))
            have ha0 := ha0.mono hx56.1
            have hb_s := hb_s.mono hx56.1
            have hb_xx := hb_xx.mono hx56.1
            have hb_yy := hb_yy.mono hx56.1
            have hb_zz := hb_zz.mono hx56.1
            obtain ⟨fs56a0, hOfs56a0, hRfs56a0⟩ := hx56.1.keep hOfs44a0
            have hKfs56a0 : jokO _ (jFs 1) fs56a0 := hW _ _ id hOfs56a0
            have hFfs56a0_1 := hRfs56a0 _ _ hFfs44a0_1
            have hFfs56a0_2 := hRfs56a0 _ _ hFfs44a0_2
            have hFfs56a0_3 := hRfs56a0 _ _ hFfs44a0_3
            have hFfs56a0_4 := hRfs56a0 _ _ hFfs44a0_4
            obtain ⟨y56, rfl, hl56, hh56, hP56_0⟩ := hr56
            clear hl56 hh56
            try simp only [he55.eq, hzf44_0.eq] at hP56_0
            have hFv56_0 := hfv56_0.get hOfs56a0
            try simp only [he55.eq, hzf44_0.eq] at hfp56_0
            have hzf56_0 : jEq fv56_0.toInt (((g6n29.toInt) + 1)) := hfp56_0
            clear hfp56_0
            have hFv56_1 := hfv56_1.get hOfs56a0
            try simp only [he55.eq, hzf44_0.eq] at hfp56_1
            have hsb56_1 : M = fv56_1 := (jI_inj.mp hfp56_1).symm
            subst hsb56_1
            have hFv56_2 := hfv56_2.get hOfs56a0
            try simp only [he55.eq, hzf44_0.eq] at hfp56_2
            have hsb56_2 : g = fv56_2 := (jI_inj.mp hfp56_2).symm
            subst hsb56_2
            obtain ⟨S56, X56, Y56, Z56, hSa56, hXa56, hYa56, hZa56, hSe56, hXe56⟩ := hX56_0
            have hfc : y56.toInt = (((jfd g.toInt x1.toInt.toNat (x1.toInt - x2.toInt - 1).toNat x2.toInt.toNat (fun q => (S q).toInt)) i4n29.toInt.toNat : Nat) : Int) := by
              rw [hP56_0, show (x1.toInt - (x2.toInt + 1)).toNat = (x1.toInt - x2.toInt - 1).toNat by omega, jfd_yes (by rw [e2]; exact hjc), e2]
              exact congrArg (fun z : Nat => (z : Int)) (jfc_congr (x1.toInt - x2.toInt - 1).toNat (fun q hq => (hsq q (by omega)).symm))
            have hb9 : 0 ≤ y56.toInt ∧ y56.toInt ≤ 46656 := by
              rw [hfc]
              have q := jfd_le (g := g.toInt) (n := x1.toInt.toNat) (k := (x1.toInt - x2.toInt - 1).toNat) (N := x2.toInt.toNat) (T := (fun q => (S q).toInt)) (d := i4n29.toInt.toNat) (by omega) (by omega)
              omega
            have hb8 : 0 ≤ i3n29.toInt ∧ i3n29.toInt ≤ 279936 := by
              rw [hfd]
              have q := jfd_sum (g := g.toInt) (n := x1.toInt.toNat) (k := (x1.toInt - x2.toInt - 1).toNat) (N := x2.toInt.toNat) (T := (fun q => (S q).toInt)) (c := i4n29.toInt.toNat) (by omega) (by omega) (by omega)
              omega
            obtain ⟨hN_S56, hv_S56⟩ := WT_rngI (r := ((-2147483648), 2147483647)) hW id rfl hSa56
            clear hN_S56
            obtain ⟨hN_X56, hv_X56⟩ := WT_rngI (r := ((-2147483648), 2147483647)) hW id rfl hXa56
            clear hN_X56
            obtain ⟨hN_Y56, hv_Y56⟩ := WT_rngI (r := ((-2147483648), 2147483647)) hW id rfl hYa56
            clear hN_Y56
            obtain ⟨hN_Z56, hv_Z56⟩ := WT_rngI (r := ((-2147483648), 2147483647)) hW id rfl hZa56
            clear hN_Z56
            refine Jz_iadd jEq.rf jEq.rf dX1_countForms_59 (by omega) (by omega) (fun y59 he59 => ?_)
            refine J_istore_n dX1_countForms_60 rfl (by decide) ?_
            refine J_aload_n dX1_countForms_61 rfl ?_
            refine Jz_iconst 1 dX1_countForms_62 (by decide) (fun y62 he62 => ?_)
            refine Jw_callV1 (q9 := (RX3, TX3, 7)) moX3_drop jw_ml_X1_76 jw_im_X3_drop jw_se_X3_drop ha0 rfl rfl dX1_countForms_63 (w_X3_drop_z (d - 1) _ a0 y62 M g fv56_0 (by omega) hW  ha0 ⟨_, hOfs56a0, hFv56_1⟩ ⟨_, hOfs56a0, hFv56_2⟩ ⟨_, hOfs56a0, hFv56_0⟩ (by (try simp only [he62.eq, true_and, and_true]) <;> omega) (by (try simp only [he62.eq, hzf56_0.eq, true_and, and_true]) <;> omega)) (by omega) (Nat.zero_le _) (Nat.zero_le _) (Nat.le_of_ble_eq_true rfl) (fun r63 V63 h63 => ?_)
            obtain ⟨h63, hX63_0, ⟨fv63_0, hfv63_0, hfp63_0⟩, ⟨fv63_1, hfv63_1, hfp63_1⟩, ⟨fv63_2, hfv63_2, hfp63_2⟩⟩ := h63
            obtain ⟨hW, hx63, hr63⟩ := h63
            have he := he.trans (hx63.sub (jsub_of rfl))
            have hfp := hfp.trans (hX63_0.sub (fun b hb => by simp only [List.mem_cons, List.not_mem_nil, or_false] at hb ⊢; first | (rcases hb with h9 <;> simp only [h9, true_or, or_true]) | omega))
            have ha0 := ha0.mono hx63.1
            have hb_s := hb_s.mono hx63.1
            have hb_xx := hb_xx.mono hx63.1
            have hb_yy := hb_yy.mono hx63.1
            have hb_zz := hb_zz.mono hx63.1
            obtain ⟨fs63a0, hOfs63a0, hRfs63a0⟩ := hx63.1.keep hOfs56a0
            have hKfs63a0 : jokO _ (jFs 1) fs63a0 := hW _ _ id hOfs63a0
            have hFfs63a0_1 := hRfs63a0 _ _ hFfs56a0_1
            have hFfs63a0_2 := hRfs63a0 _ _ hFfs56a0_2
            have hFfs63a0_3 := hRfs63a0 _ _ hFfs56a0_3
            have hFfs63a0_4 := hRfs63a0 _ _ hFfs56a0_4
            have hSa56 := hx63.2 _ _ hSa56 (jnot_of rfl)
            have hXa56 := hx63.2 _ _ hXa56 (jnot_of rfl)
            have hYa56 := hx63.2 _ _ hYa56 (jnot_of rfl)
            have hZa56 := hx63.2 _ _ hZa56 (jnot_of rfl)
            cases hr63
            have hFv63_0 := hfv63_0.get hOfs63a0
            try simp only [he62.eq, hzf56_0.eq] at hfp63_0
            have hsb63_0 : M = fv63_0 := (jI_inj.mp hfp63_0).symm
            subst hsb63_0
            have hFv63_1 := hfv63_1.get hOfs63a0
            try simp only [he62.eq, hzf56_0.eq] at hfp63_1
            have hsb63_1 : g = fv63_1 := (jI_inj.mp hfp63_1).symm
            subst hsb63_1
            have hFv63_2 := hfv63_2.get hOfs63a0
            try simp only [he62.eq, hzf56_0.eq] at hfp63_2
            have hzf63_2 : jEq fv63_2.toInt ((((g6n29.toInt) + 1)) - (1)) := hfp63_2
            clear hfp63_2
            refine Jz_iinc 1 dX1_countForms_66 rfl rfl (by decide) jEq.rf (by decide) (by omega) (by omega) (fun y66 he66 => ?_)
            refine J_goto (tgt := 29) dX1_countForms_69 (by decide) ?_
            refine J.mask [true, true, true, true, true] ?_
            exact ih29 _ y59 y66 fs63a0 fv63_2 S56 X56 Y56 Z56 hW he ha0 hb_s hb_xx hb_yy hb_zz hfp hOfs63a0 hFv63_0 hFv63_1 hFv63_2 hFfs63a0_1 hFfs63a0_2 hFfs63a0_3 hFfs63a0_4 hSa56 hXa56 hYa56 hZa56 (by (try simp only [he59.eq, he66.eq, hzf63_2.eq, true_and, and_true]) <;> omega) (by (try simp only [he59.eq, he66.eq, hzf63_2.eq, true_and, and_true]) <;> omega) (fun j hj => by rw [hSe56 j (by rw [hzf44_0.eq]; omega), hSo44 j (by omega)]; exact hS j hj) (fun j hj => by obtain ⟨q1, q2, q3⟩ := hXe56 j (by rw [hzf44_0.eq]; omega); rw [q1, q2, q3, hXo44 j (by omega), hYo44 j (by omega), hZo44 j (by omega)]; exact hXYZ j hj) (by rw [he59.eq, he66.eq, show (i4n29.toInt + 1).toNat = i4n29.toInt.toNat + 1 by omega, hfd, hfc]; exact (Int.natCast_add _ _).symm) (by (try simp only [he59.eq, he66.eq, hzf63_2.eq, true_and, and_true]) <;> omega)
          · refine Jw_callV1 (q9 := (RX3, TX3, 7)) moX3_lay jw_ml_X1_68 jw_im_X3_lay jw_se_X3_lay ha0 rfl rfl dX1_countForms_44 (w_X3_lay_no (d - 1) _ a0 i4n29 M g g6n29 s xx yy zz F6n29 F34n29 F35n29 F36n29 (by omega) hW  ha0 ⟨_, hOgs29a0, hFgs29a0_0⟩ ⟨_, hOgs29a0, hFgs29a0_5⟩ ⟨_, hOgs29a0, hFgs29a0_6⟩ ⟨_, hOgs29a0, hFgs29a0_1⟩ ⟨_, hOgs29a0, hFgs29a0_2⟩ ⟨_, hOgs29a0, hFgs29a0_3⟩ ⟨_, hOgs29a0, hFgs29a0_4⟩ hAF6n29 hAF34n29 hAF35n29 hAF36n29 (by omega) (by omega) (by omega) (by omega) (by omega) (by omega) (by omega) (by omega) (by omega) (by omega) (by omega) (by omega) (by omega) (Or.inr (Classical.byContradiction (fun z => hcc ((jnx_iff hjv2 hja2).mp (fun j hj q => z ⟨j, by omega, q⟩)))))) (by omega) (Nat.zero_le _) (Nat.zero_le _) (Nat.le_of_ble_eq_true rfl) (fun r44 V44 h44 => ?_)
            obtain ⟨⟨y44, rfl, hl44, hh44, hP44_0⟩, hE44⟩ := h44
            have hE44 := hE44.symm
            subst hE44
            have hjn : ¬ jav g.toInt (jsat (fun q => (S q).toInt) x2.toInt.toNat i4n29.toInt) (x2.toInt.toNat + 1) := fun z => hcc (by
              rw [hN9]
              exact z.congr (jsat_congr (fun q hq => (congrArg Int32.toInt (hS q (by omega))).symm)))
            refine Jz_if_eq (tgt := 66) jEq.rf dX1_countForms_47 (by decide) (fun c47 => ?_) (fun c47 => (show False by omega).elim)
            refine Jz_iinc 1 dX1_countForms_66 rfl rfl (by decide) jEq.rf (by decide) (by omega) (by omega) (fun y66 he66 => ?_)
            refine J_goto (tgt := 29) dX1_countForms_69 (by decide) ?_
            refine J.mask [true, true, true, true, true] ?_
            exact ih29 _ i3n29 y66 gs29a0 g6n29 F6n29 F34n29 F35n29 F36n29 hW he ha0 hb_s hb_xx hb_yy hb_zz hfp hOgs29a0 hFgs29a0_0 hFgs29a0_5 hFgs29a0_6 hFgs29a0_1 hFgs29a0_2 hFgs29a0_3 hFgs29a0_4 hAF6n29 hAF34n29 hAF35n29 hAF36n29 (by (try simp only [he66.eq, true_and, and_true]) <;> omega) (by (try simp only [he66.eq, true_and, and_true]) <;> omega) hS hXYZ (by rw [he66.eq, show (i4n29.toInt + 1).toNat = i4n29.toInt.toNat + 1 by omega, jsu_skip (jfd_no (by rw [e2]; exact hjn))]; exact hfd) (by (try simp only [he66.eq, true_and, and_true]) <;> omega)
    refine J.mask [true, true, true, true, true] ?_
    exact L29 _ _ y24 y26 fs_a0 n S X Y Z hW he ha0 hb_s hb_xx hb_yy hb_zz hfp hO_a0 hF_M hF_g hF_n hF_s hF_xx hF_yy hF_zz ha_S ha_X ha_Y ha_Z (by (try simp only [he24.eq, he26.eq, true_and, and_true]) <;> omega) (by (try simp only [he24.eq, he26.eq, true_and, and_true]) <;> omega) (fun _ _ => rfl) (fun _ _ => ⟨rfl, rfl, rfl⟩) (by rw [he24.eq, he26.eq]; rfl) (Nat.lt_succ_self _)
