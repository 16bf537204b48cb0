set_option maxRecDepth 100000 in
set_option maxHeartbeats 8000000 in
theorem w_X6_about_ok {tS : jTS} (d : Nat) (V0 : jH) (a0 : Nat) (x1 : Int32) (x2 : Int32) (k : Int32) (md : Nat) (f : Nat → Option Nat) (ro : Nat) (M : Int32) (g : Int32) (n : Int32) (s : Nat) (xx : Nat) (yy : Nat) (zz : Nat) (S : Nat → Int32) (X : Nat → Int32) (Y : Nat → Int32) (Z : Nat → Int32) (hd : 4 ≤ d) (hW : WT V0) (ha0 : jis V0 (.inr 4) a0) (hf_k : jfI V0 a0 4 1 k) (hr_md : jfR V0 a0 4 0 md) (ha_f : V0 md = some (.inl (4, 16, .inr (.inr (.inr (.inr f)))))) (hf_M : jfI V0 ro 1 0 M) (hf_g : jfI V0 ro 1 5 g) (hf_n : jfI V0 ro 1 6 n) (hr_s : jfR V0 ro 1 1 s) (hr_xx : jfR V0 ro 1 2 xx) (hr_yy : jfR V0 ro 1 3 yy) (hr_zz : jfR V0 ro 1 4 zz) (ha_S : V0 s = some (.inl (6, 60, .inl S))) (ha_X : V0 xx = some (.inl (34, 61, .inl X))) (ha_Y : V0 yy = some (.inl (35, 61, .inl Y))) (ha_Z : V0 zz = some (.inl (36, 61, .inl Z))) (hm_ro : M.toInt = 60) (hn_ro : n.toInt ≤ 60) (hfo : f x1.toInt.toNat = some ro) (hp0 : 0 ≤ x1.toInt) (hp1 : x1.toInt < k.toInt) (hp2 : 0 ≤ g.toInt) (hp3 : g.toInt ≤ 3) (hp4 : -120 ≤ (X n.toInt.toNat).toInt) (hp5 : (X n.toInt.toNat).toInt ≤ 120) (hp6 : -120 ≤ (Y n.toInt.toNat).toInt) (hp7 : (Y n.toInt.toNat).toInt ≤ 120) (hp8 : -120 ≤ (Z n.toInt.toNat).toInt) (hp9 : (Z n.toInt.toNat).toInt ≤ 120) (hp10 : 0 ≤ x2.toInt) (hp11 : x2.toInt ≤ 7) : jTot tS mX6_about d [.ref a0, .int x1, .int x2] V0 0 0 (fun r V => (fun r _ => ∃ y : Int32, r = some (.int y) ∧ ((-2147483648) ≤ y.toInt) ∧ (y.toInt ≤ 2147483647) ∧ (y.toInt = jab8 g.toInt n.toInt S X Y Z x2.toInt)) r V ∧ V = V0) := by
  refine jTot.of_J [some (.ref a0), some (.int x1), some (.int x2), none] moX6_about (Nat.le_of_ble_eq_true rfl) rfl ?_
  have hrx1 := j_rng x1
  have hrx2 := j_rng x2
  have he : jeff [] V0 V0 := jeff.refl _ _
  obtain ⟨fs_a0, hO_a0, hK_a0⟩ := WT_obj hW id ha0
  have hF_k := hf_k.get hO_a0
  have hrk : 0 ≤ k.toInt ∧ k.toInt ≤ 16 := jok_rngI hK_a0 rfl hF_k
  have hF_md := hr_md.get hO_a0
  obtain ⟨w_md, hFq_md, b_md, hbq_md, hb_md⟩ := hK_a0.2 0 (.inr (some (.inl 4))) rfl
  cases hF_md.symm.trans (hFq_md.trans (congrArg some hbq_md))
  have hb_ro : jis V0 (.inr 1) ro := by obtain ⟨q1, q2, q3⟩ := hf_M; exact ⟨_, q2, rfl⟩
  obtain ⟨fs_ro, hO_ro, hK_ro⟩ := WT_obj hW id hb_ro
  have hF_M := hf_M.get hO_ro
  have hrM : 0 ≤ M.toInt ∧ M.toInt ≤ 120 := jok_rngI hK_ro rfl hF_M
  have hF_g := hf_g.get hO_ro
  have hrg : (-2147483648) ≤ g.toInt ∧ g.toInt ≤ 2147483647 := jok_rngI hK_ro rfl hF_g
  have hF_n := hf_n.get hO_ro
  have hrn : 0 ≤ n.toInt ∧ n.toInt ≤ 120 := jok_rngI hK_ro rfl hF_n
  have hF_s := hr_s.get hO_ro
  have hb_s : jis V0 (.inl 6) s := ⟨_, ha_S, rfl⟩
  obtain ⟨hN_S, hv_S⟩ := WT_rngI (r := (-2147483648, 2147483647)) hW id rfl ha_S
  clear hN_S
  have hF_xx := hr_xx.get hO_ro
  have hb_xx : jis V0 (.inl 34) xx := ⟨_, ha_X, rfl⟩
  obtain ⟨hN_X, hv_X⟩ := WT_rngI (r := (-2147483648, 2147483647)) hW id rfl ha_X
  clear hN_X
  have hF_yy := hr_yy.get hO_ro
  have hb_yy : jis V0 (.inl 35) yy := ⟨_, ha_Y, rfl⟩
  obtain ⟨hN_Y, hv_Y⟩ := WT_rngI (r := (-2147483648, 2147483647)) hW id rfl ha_Y
  clear hN_Y
  have hF_zz := hr_zz.get hO_ro
  have hb_zz : jis V0 (.inl 36) zz := ⟨_, ha_Z, rfl⟩
  obtain ⟨hN_Z, hv_Z⟩ := WT_rngI (r := (-2147483648, 2147483647)) hW id rfl ha_Z
  clear hN_Z
  refine J_aload_n dX6_about_0 rfl ?_
  refine J_iload_n dX6_about_1 rfl ?_
  refine Jw_callV1 (q9 := (RX6, TX6, 7)) moX6_rowOf jw_ml_X6_55 jw_im_X6_rowOf jw_se_X6_rowOf ha0 rfl rfl dX6_about_2 (w_X6_rowOf_in (d - 1) _ a0 x1 hO_a0 hF_md hF_k ha_f (by omega) (by omega) (by omega) hfo) (by omega) (Nat.zero_le _) (Nat.zero_le _) (Nat.le_of_ble_eq_true rfl) (fun r2 V2 h2 => ?_)
  obtain ⟨rfl, hE2⟩ := h2
  have hE2 := hE2.symm
  subst hE2
  · refine J_astore_n dX6_about_5 rfl (by decide) ?_
    refine J_aload_n dX6_about_6 rfl ?_
    refine J_ifnonnull (tgt := 13) dX6_about_7 (by decide) ?_
    refine J_iload_n dX6_about_13 rfl ?_
    rcases jsw7 x2 with hx14 | hx14 | hx14 | hx14 | hx14 | hx14 | hx14 | hx14 | hx14 | hx14
    · have hx14t : x2.toInt = 0 := by rw [hx14]; rfl
      clear hx14
      refine J_tableIn (tgt := 60) dX6_about_14 (by omega) (by omega) (by rw [hx14t]; rfl) (by decide) ?_
      refine J_aload_n dX6_about_60 rfl ?_
      refine J_get jf_X6_59 dX6_about_61 hO_ro hF_g ?_
      exact J_ret (r := some (.int _)) dX6_about_64 ⟨rfl, _, rfl, rfl⟩ (⟨⟨_, rfl, (j_rng _).1, (j_rng _).2, (by rw [hx14t]; rfl)⟩, rfl⟩)
    · have hx14t : x2.toInt = 1 := by rw [hx14]; rfl
      clear hx14
      refine J_tableIn (tgt := 65) dX6_about_14 (by omega) (by omega) (by rw [hx14t]; rfl) (by decide) ?_
      refine J_aload_n dX6_about_65 rfl ?_
      refine J_get jf_X6_69 dX6_about_66 hO_ro hF_n ?_
      exact J_ret (r := some (.int _)) dX6_about_69 ⟨rfl, _, rfl, rfl⟩ (⟨⟨_, rfl, (j_rng _).1, (j_rng _).2, (by rw [hx14t]; rfl)⟩, rfl⟩)
    · have hx14t : x2.toInt = 2 := by rw [hx14]; rfl
      clear hx14
      refine J_tableIn (tgt := 70) dX6_about_14 (by omega) (by omega) (by rw [hx14t]; rfl) (by decide) ?_
      refine J_aload_n dX6_about_70 rfl ?_
      refine J_get jf_X6_59 dX6_about_71 hO_ro hF_g ?_
      refine J_aload_n dX6_about_74 rfl ?_
      refine Jw_callV0 (q9 := (RX3, TX3, 7)) moX3_endX jw_ml_X6_93 jw_im_X3_endX jw_se_X3_endX hb_ro rfl rfl dX6_about_75 (w_X3_endX_z (d - 1) _ ro M g n s xx yy zz S X Y Z (by omega) hW  hb_ro ⟨_, hO_ro, hF_M⟩ ⟨_, hO_ro, hF_g⟩ ⟨_, hO_ro, hF_n⟩ ⟨_, hO_ro, hF_s⟩ ⟨_, hO_ro, hF_xx⟩ ⟨_, hO_ro, hF_yy⟩ ⟨_, hO_ro, hF_zz⟩ ha_S ha_X ha_Y ha_Z (by omega) (by omega) (by omega)) (by omega) (Nat.zero_le _) (Nat.zero_le _) (Nat.le_of_ble_eq_true rfl) (fun r75 V75 h75 => ?_)
      obtain ⟨⟨y75, rfl, hl75, hh75, hP75_0⟩, hE75⟩ := h75
      have hE75 := hE75.symm
      subst hE75
      clear hl75 hh75
      have hz75 : jEq y75.toInt ((X (n.toInt).toNat).toInt) := hP75_0
      clear hP75_0
      refine J_aload_n dX6_about_78 rfl ?_
      refine Jw_callV0 (q9 := (RX3, TX3, 7)) moX3_endY jw_ml_X6_97 jw_im_X3_endY jw_se_X3_endY hb_ro rfl rfl dX6_about_79 (w_X3_endY_z (d - 1) _ ro M g n s xx yy zz S X Y Z (by omega) hW  hb_ro ⟨_, hO_ro, hF_M⟩ ⟨_, hO_ro, hF_g⟩ ⟨_, hO_ro, hF_n⟩ ⟨_, hO_ro, hF_s⟩ ⟨_, hO_ro, hF_xx⟩ ⟨_, hO_ro, hF_yy⟩ ⟨_, hO_ro, hF_zz⟩ ha_S ha_X ha_Y ha_Z (by omega) (by omega) (by omega)) (by omega) (Nat.zero_le _) (Nat.zero_le _) (Nat.le_of_ble_eq_true rfl) (fun r79 V79 h79 => ?_)
      obtain ⟨⟨y79, rfl, hl79, hh79, hP79_0⟩, hE79⟩ := h79
      have hE79 := hE79.symm
      subst hE79
      clear hl79 hh79
      have hz79 : jEq y79.toInt ((Y (n.toInt).toNat).toInt) := hP79_0
      clear hP79_0
      refine J_aload_n dX6_about_82 rfl ?_
      refine Jw_callV0 (q9 := (RX3, TX3, 7)) moX3_endZ jw_ml_X6_120 jw_im_X3_endZ jw_se_X3_endZ hb_ro rfl rfl dX6_about_83 (w_X3_endZ_z (d - 1) _ ro M g n s xx yy zz S X Y Z (by omega) hW  hb_ro ⟨_, hO_ro, hF_M⟩ ⟨_, hO_ro, hF_g⟩ ⟨_, hO_ro, hF_n⟩ ⟨_, hO_ro, hF_s⟩ ⟨_, hO_ro, hF_xx⟩ ⟨_, hO_ro, hF_yy⟩ ⟨_, hO_ro, hF_zz⟩ ha_S ha_X ha_Y ha_Z (by omega) (by omega) (by omega)) (by omega) (Nat.zero_le _) (Nat.zero_le _) (Nat.le_of_ble_eq_true rfl) (fun r83 V83 h83 => ?_)
      obtain ⟨⟨y83, rfl, hl83, hh83, hP83_0⟩, hE83⟩ := h83
      have hE83 := hE83.symm
      subst hE83
      clear hl83 hh83
      have hz83 : jEq y83.toInt ((Z (n.toInt).toNat).toInt) := hP83_0
      clear hP83_0
      refine J_callS4 moX0_square jw_ml_X6_123 jw_st_X0_square dX6_about_86 (w_X0_square_z (d - 1) _ g y75 y79 y83 (by omega)   (by (try simp only [hz75.eq, true_and, and_true]) <;> omega) (by (try simp only [hz75.eq, true_and, and_true]) <;> omega) (by (try simp only [hz79.eq, true_and, and_true]) <;> omega) (by (try simp only [hz79.eq, true_and, and_true]) <;> omega) (by (try simp only [hz83.eq, true_and, and_true]) <;> omega) (by (try simp only [hz83.eq, true_and, and_true]) <;> omega)) (by omega) (Nat.zero_le _) (Nat.zero_le _) (Nat.le_of_ble_eq_true rfl) (fun r86 V86 h86 => ?_)
      obtain ⟨⟨y86, rfl, hl86, hh86, hP86_0⟩, hE86⟩ := h86
      have hE86 := hE86.symm
      subst hE86
      clear hl86 hh86
      try simp only [hz75.eq, hz79.eq, hz83.eq] at hP86_0
      have hz86 : jEq y86.toInt (jsq (g.toInt) ((X (n.toInt).toNat).toInt) ((Y (n.toInt).toNat).toInt) ((Z (n.toInt).toNat).toInt)) := hP86_0
      clear hP86_0
      exact J_ret (r := some (.int _)) dX6_about_89 ⟨rfl, _, rfl, rfl⟩ (⟨⟨_, rfl, (j_rng _).1, (j_rng _).2, (by rw [hx14t, hz86.eq]; rfl)⟩, rfl⟩)
    · have hx14t : x2.toInt = 3 := by rw [hx14]; rfl
      clear hx14
      refine J_tableIn (tgt := 90) dX6_about_14 (by omega) (by omega) (by rw [hx14t]; rfl) (by decide) ?_
      refine J_aload_n dX6_about_90 rfl ?_
      refine Jw_callV0 (q9 := (RX3, TX3, 7)) moX3_isRing jw_ml_X6_127 jw_im_X3_isRing jw_se_X3_isRing hb_ro rfl rfl dX6_about_91 (w_X3_isRing_z (d - 1) _ ro M g n s xx yy zz S X Y Z (by omega) hW  hb_ro ⟨_, hO_ro, hF_M⟩ ⟨_, hO_ro, hF_g⟩ ⟨_, hO_ro, hF_n⟩ ⟨_, hO_ro, hF_s⟩ ⟨_, hO_ro, hF_xx⟩ ⟨_, hO_ro, hF_yy⟩ ⟨_, hO_ro, hF_zz⟩ ha_S ha_X ha_Y ha_Z (by omega) (by omega) (by omega) (by omega) (by omega) (by omega) (by omega) (by omega) (by omega)) (by omega) (Nat.zero_le _) (Nat.zero_le _) (Nat.le_of_ble_eq_true rfl) (fun r91 V91 h91 => ?_)
      obtain ⟨⟨y91, rfl, hl91, hh91, hP91_0⟩, hE91⟩ := h91
      have hE91 := hE91.symm
      subst hE91
      refine Jz_if_eq (tgt := 101) jEq.rf dX6_about_94 (by decide) (fun c94 => ?_) (fun c94 => ?_)
      · refine Jz_iconst 0 dX6_about_101 (by decide) (fun y101 he101 => ?_)
        exact J_ret (r := some (.int _)) dX6_about_102 ⟨rfl, _, rfl, rfl⟩ (⟨⟨_, rfl, (j_rng _).1, (j_rng _).2, (by rw [hx14t, he101.eq]; exact (jpb_no (P := (jrngP g.toInt n.toInt X Y Z)) (hP91_0.elim (fun q => by omega) (fun q => q.2))).symm)⟩, rfl⟩)
      · refine Jz_iconst 1 dX6_about_97 (by decide) (fun y97 he97 => ?_)
        refine J_goto (tgt := 102) dX6_about_98 (by decide) ?_
        exact J_ret (r := some (.int _)) dX6_about_102 ⟨rfl, _, rfl, rfl⟩ (⟨⟨_, rfl, (j_rng _).1, (j_rng _).2, (by rw [hx14t, he97.eq]; exact (jpb_yes (P := (jrngP g.toInt n.toInt X Y Z)) (hP91_0.elim (fun q => q.2) (fun q => absurd q.1 c94))).symm)⟩, rfl⟩)
    · have hx14t : x2.toInt = 4 := by rw [hx14]; rfl
      clear hx14
      refine J_tableIn (tgt := 103) dX6_about_14 (by omega) (by omega) (by rw [hx14t]; rfl) (by decide) ?_
      refine J_aload_n dX6_about_103 rfl ?_
      refine Jw_callV0 (q9 := (RX3, TX3, 7)) moX3_isRing jw_ml_X6_127 jw_im_X3_isRing jw_se_X3_isRing hb_ro rfl rfl dX6_about_104 (w_X3_isRing_z (d - 1) _ ro M g n s xx yy zz S X Y Z (by omega) hW  hb_ro ⟨_, hO_ro, hF_M⟩ ⟨_, hO_ro, hF_g⟩ ⟨_, hO_ro, hF_n⟩ ⟨_, hO_ro, hF_s⟩ ⟨_, hO_ro, hF_xx⟩ ⟨_, hO_ro, hF_yy⟩ ⟨_, hO_ro, hF_zz⟩ ha_S ha_X ha_Y ha_Z (by omega) (by omega) (by omega) (by omega) (by omega) (by omega) (by omega) (by omega) (by omega)) (by omega) (Nat.zero_le _) (Nat.zero_le _) (Nat.le_of_ble_eq_true rfl) (fun r104 V104 h104 => ?_)
      obtain ⟨⟨y104, rfl, hl104, hh104, hP104_0⟩, hE104⟩ := h104
      have hE104 := hE104.symm
      subst hE104
      refine Jz_if_eq (tgt := 125) jEq.rf dX6_about_107 (by decide) (fun c107 => ?_) (fun c107 => ?_)
      · refine Jz_iconst (-1) dX6_about_125 (by decide) (fun y125 he125 => ?_)
        exact J_ret (r := some (.int _)) dX6_about_126 ⟨rfl, _, rfl, rfl⟩ (⟨⟨_, rfl, (j_rng _).1, (j_rng _).2, (by rw [hx14t, jab8_4, if_neg (fun q => by have q3 := jpb_no (P := (jrngP g.toInt n.toInt X Y Z)) (hP104_0.elim (fun q => by omega) (fun q => q.2)); omega)]; exact he125.eq)⟩, rfl⟩)
      · refine J_aload_n dX6_about_110 rfl ?_
        refine J_get jf_X6_59 dX6_about_111 hO_ro hF_g ?_
        refine Jz_iconst 3 dX6_about_114 (by decide) (fun y114 he114 => ?_)
        refine Jz_icmp_eq (tgt := 125) jEq.rf he114 dX6_about_115 (by decide) (fun c115 => ?_) (fun c115 => ?_)
        · refine Jz_iconst (-1) dX6_about_125 (by decide) (fun y125 he125 => ?_)
          exact J_ret (r := some (.int _)) dX6_about_126 ⟨rfl, _, rfl, rfl⟩ (⟨⟨_, rfl, (j_rng _).1, (j_rng _).2, (by rw [hx14t, jab8_4, if_neg (fun q => q.2 c115)]; exact he125.eq)⟩, rfl⟩)
        · refine J_aload_n dX6_about_118 rfl ?_
          refine Jw_callV0 (q9 := (RX3, TX3, 7)) moX3_twiceArea jw_ml_X6_131 jw_im_X3_twiceArea jw_se_X3_twiceArea hb_ro rfl rfl dX6_about_119 (w_X3_twiceArea_z (d - 1) _ ro M g n s xx yy zz S X Y Z (by omega) hW  hb_ro ⟨_, hO_ro, hF_M⟩ ⟨_, hO_ro, hF_g⟩ ⟨_, hO_ro, hF_n⟩ ⟨_, hO_ro, hF_s⟩ ⟨_, hO_ro, hF_xx⟩ ⟨_, hO_ro, hF_yy⟩ ⟨_, hO_ro, hF_zz⟩ ha_S ha_X ha_Y ha_Z (by omega) (by omega) (by omega)) (by omega) (Nat.zero_le _) (Nat.zero_le _) (Nat.le_of_ble_eq_true rfl) (fun r119 V119 h119 => ?_)
          obtain ⟨⟨y119, rfl, hl119, hh119, hP119_0⟩, hE119⟩ := h119
          have hE119 := hE119.symm
          subst hE119
          clear hl119 hh119
          have hz119 : jEq y119.toInt ((jab (jar X Y (n.toInt).toNat)).toInt) := hP119_0
          clear hP119_0
          refine J_goto (tgt := 126) dX6_about_122 (by decide) ?_
          exact J_ret (r := some (.int _)) dX6_about_126 ⟨rfl, _, rfl, rfl⟩ (⟨⟨_, rfl, (j_rng _).1, (j_rng _).2, (by rw [hx14t, jab8_4, if_pos ⟨jpb_yes (P := (jrngP g.toInt n.toInt X Y Z)) (hP104_0.elim (fun q => q.2) (fun q => absurd q.1 c107)), c115⟩]; exact hz119.eq)⟩, rfl⟩)
    · have hx14t : x2.toInt = 5 := by rw [hx14]; rfl
      clear hx14
      refine J_tableIn (tgt := 127) dX6_about_14 (by omega) (by omega) (by rw [hx14t]; rfl) (by decide) ?_
      refine J_aload_n dX6_about_127 rfl ?_
      refine Jw_callV0 (q9 := (RX3, TX3, 7)) moX3_bends jw_ml_X6_134 jw_im_X3_bends jw_se_X3_bends hb_ro rfl rfl dX6_about_128 (w_X3_bends_z (d - 1) _ ro M g n s xx yy zz S X Y Z (by omega) hW  hb_ro ⟨_, hO_ro, hF_M⟩ ⟨_, hO_ro, hF_g⟩ ⟨_, hO_ro, hF_n⟩ ⟨_, hO_ro, hF_s⟩ ⟨_, hO_ro, hF_xx⟩ ⟨_, hO_ro, hF_yy⟩ ⟨_, hO_ro, hF_zz⟩ ha_S ha_X ha_Y ha_Z (by omega) (by omega) (by omega) (by omega)) (by omega) (Nat.zero_le _) (Nat.zero_le _) (Nat.le_of_ble_eq_true rfl) (fun r128 V128 h128 => ?_)
      obtain ⟨⟨y128, rfl, hl128, hh128, hP128_0⟩, hE128⟩ := h128
      have hE128 := hE128.symm
      subst hE128
      clear hl128 hh128
      have hz128 : jEq y128.toInt (jbn S (n.toInt).toNat) := hP128_0
      clear hP128_0
      exact J_ret (r := some (.int _)) dX6_about_131 ⟨rfl, _, rfl, rfl⟩ (⟨⟨_, rfl, (j_rng _).1, (j_rng _).2, (by rw [hx14t, hz128.eq]; rfl)⟩, rfl⟩)
    · have hx14t : x2.toInt = 6 := by rw [hx14]; rfl
      clear hx14
      refine J_tableIn (tgt := 132) dX6_about_14 (by omega) (by omega) (by rw [hx14t]; rfl) (by decide) ?_
      refine J_aload_n dX6_about_132 rfl ?_
      refine Jw_callV0 (q9 := (RX3, TX3, 7)) moX3_isBridge jw_ml_X6_137 jw_im_X3_isBridge jw_se_X3_isBridge hb_ro rfl rfl dX6_about_133 (w_X3_isBridge_z (d - 1) _ ro M g n s xx yy zz S X Y Z (by omega) hW  hb_ro ⟨_, hO_ro, hF_M⟩ ⟨_, hO_ro, hF_g⟩ ⟨_, hO_ro, hF_n⟩ ⟨_, hO_ro, hF_s⟩ ⟨_, hO_ro, hF_xx⟩ ⟨_, hO_ro, hF_yy⟩ ⟨_, hO_ro, hF_zz⟩ ha_S ha_X ha_Y ha_Z (by omega) (by omega) (by omega)) (by omega) (Nat.zero_le _) (Nat.zero_le _) (Nat.le_of_ble_eq_true rfl) (fun r133 V133 h133 => ?_)
      obtain ⟨⟨y133, rfl, hl133, hh133, hI133_0, hI133_1⟩, hE133⟩ := h133
      have hE133 := hE133.symm
      subst hE133
      refine Jz_if_eq (tgt := 143) jEq.rf dX6_about_136 (by decide) (fun c136 => ?_) (fun c136 => ?_)
      · have q136_1 := hI133_1.of (by omega)
        refine Jz_iconst 0 dX6_about_143 (by decide) (fun y143 he143 => ?_)
        exact J_ret (r := some (.int _)) dX6_about_144 ⟨rfl, _, rfl, rfl⟩ (⟨⟨_, rfl, (j_rng _).1, (j_rng _).2, (by rw [hx14t]; first | (rw [he139.eq]; exact (jpb_yes (P := jbrg n.toInt.toNat X) q136_0).symm) | (rw [he143.eq]; exact (jpb_no (P := jbrg n.toInt.toNat X) q136_1).symm))⟩, rfl⟩)
      · have q136_0 := hI133_0.of (by omega)
        refine Jz_iconst 1 dX6_about_139 (by decide) (fun y139 he139 => ?_)
        refine J_goto (tgt := 144) dX6_about_140 (by decide) ?_
        exact J_ret (r := some (.int _)) dX6_about_144 ⟨rfl, _, rfl, rfl⟩ (⟨⟨_, rfl, (j_rng _).1, (j_rng _).2, (by rw [hx14t]; first | (rw [he139.eq]; exact (jpb_yes (P := jbrg n.toInt.toNat X) q136_0).symm) | (rw [he143.eq]; exact (jpb_no (P := jbrg n.toInt.toNat X) q136_1).symm))⟩, rfl⟩)
    · have hx14t : x2.toInt = 7 := by rw [hx14]; rfl
      clear hx14
      refine J_tableIn (tgt := 145) dX6_about_14 (by omega) (by omega) (by rw [hx14t]; rfl) (by decide) ?_
      refine J_aload_n dX6_about_145 rfl ?_
      refine Jw_callV0 (q9 := (RX3, TX3, 7)) moX3_leadsOn jw_ml_X6_140 jw_im_X3_leadsOn jw_se_X3_leadsOn hb_ro rfl rfl dX6_about_146 (w_X3_leadsOn_z (d - 1) _ ro M g n s xx yy zz S X Y Z (by omega) hW  hb_ro ⟨_, hO_ro, hF_M⟩ ⟨_, hO_ro, hF_g⟩ ⟨_, hO_ro, hF_n⟩ ⟨_, hO_ro, hF_s⟩ ⟨_, hO_ro, hF_xx⟩ ⟨_, hO_ro, hF_yy⟩ ⟨_, hO_ro, hF_zz⟩ ha_S ha_X ha_Y ha_Z (by omega) (by omega) (by omega) (by omega) (by omega) (by omega) (by omega) (by omega) (by omega) (by omega) (by omega)) (by omega) (Nat.zero_le _) (Nat.zero_le _) (Nat.le_of_ble_eq_true rfl) (fun r146 V146 h146 => ?_)
      obtain ⟨⟨y146, rfl, hl146, hh146, hP146_0⟩, hE146⟩ := h146
      have hE146 := hE146.symm
      subst hE146
      clear hl146 hh146
      have hz146 : jEq y146.toInt (jct (fun d : Nat => jfree (g.toInt) (n.toInt).toNat X Y Z (d : Int)) (jdir (g.toInt)).toNat) := hP146_0
      clear hP146_0
      exact J_ret (r := some (.int _)) dX6_about_149 ⟨rfl, _, rfl, rfl⟩ (⟨⟨_, rfl, (j_rng _).1, (j_rng _).2, (by rw [hx14t, hz146.eq]; rfl)⟩, rfl⟩)
    · refine J_tableOut (tgt := 150) dX6_about_14 (Or.inl hx14) (by decide) ?_
      exact False.elim (by omega)
    · refine J_tableOut (tgt := 150) dX6_about_14 (Or.inr hx14) (by decide) ?_
      exact False.elim (by omega)
