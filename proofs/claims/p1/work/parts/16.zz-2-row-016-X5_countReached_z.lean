set_option maxRecDepth 100000 in
set_option maxHeartbeats 8000000 in
theorem w_X5_countReached_z {tS : jTS} (d : Nat) (V0 : jH) (a0 : Nat) (a1 : Nat) (g : Int32) (sn : Int32) (b : Int32) (qd : Int32) (M : Int32) (n : Int32) (st : Nat) (qu : Nat) (dg : Nat) (s : Nat) (xx : Nat) (yy : Nat) (zz : Nat) (R : Nat) (ST : Nat → Int32) (QU : Nat → Int32) (DG : Nat → Int32) (S : Nat → Int32) (X : Nat → Int32) (Y : Nat → Int32) (Z : Nat → Int32) (hd : 13 ≤ d) (hW : WT V0) (ha0 : jis V0 (.inr 3) a0) (ha1 : jis V0 (.inr 1) a1) (hf_g : jfI V0 a0 3 0 g) (hf_sn : jfI V0 a0 3 1 sn) (hf_b : jfI V0 a0 3 2 b) (hf_qd : jfI V0 a0 3 6 qd) (hf_M : jfI V0 a1 1 0 M) (hf_n : jfI V0 a1 1 6 n) (hr_st : jfR V0 a0 3 3 st) (hr_qu : jfR V0 a0 3 4 qu) (hr_dg : jfR V0 a0 3 5 dg) (hr_s : jfR V0 a1 1 1 s) (hr_xx : jfR V0 a1 1 2 xx) (hr_yy : jfR V0 a1 1 3 yy) (hr_zz : jfR V0 a1 1 4 zz) (ha_ST : V0 st = some (.inl (3, R, .inl ST))) (ha_QU : V0 qu = some (.inl (10, R, .inl QU))) (ha_DG : V0 dg = some (.inl (11, 6, .inl DG))) (ha_S : V0 s = some (.inl (6, 120, .inl S))) (ha_X : V0 xx = some (.inl (34, 121, .inl X))) (ha_Y : V0 yy = some (.inl (35, 121, .inl Y))) (ha_Z : V0 zz = some (.inl (36, 121, .inl Z))) (hp0 : M.toInt = 120) (hp1 : 0 ≤ g.toInt) (hp2 : g.toInt ≤ 3) (hp3 : b.toInt = jdir g.toInt) (hp4 : 1 ≤ sn.toInt) (hp5 : sn.toInt ≤ 6) (hp6 : (R : Int) ≤ 10000) (hp7 : R = (jdir g.toInt).toNat ^ sn.toInt.toNat) (hp8 : qd.toInt = 0) (hp9 : ST = (fun _ => 0)) (hp10 : (X 0).toInt = 0) (hp11 : (Y 0).toInt = 0) (hp12 : (Z 0).toInt = 0) : jTot tS mX5_countReached d [.ref a0, .ref a1] V0 0 0 (fun r V => (jPost [.inr 3, .inr 1, .inl 6, .inl 34, .inl 35, .inl 36, .inl 3, .inl 10, .inl 11] V0 (fun r _ => ∃ y : Int32, r = some (.int y) ∧ ((-2147483648) ≤ y.toInt) ∧ (y.toInt ≤ 2147483647) ∧ (y.toInt = (((jbf g.toInt (jdir g.toInt).toNat sn.toInt.toNat (jtur g.toInt).toNat (R + 1) 0 [0]).length : Nat) : Int)))) r V ∧ jrk a1 V0 V) := by
  refine jTot.of_J [some (.ref a0), some (.ref a1), none, none, none] moX5_countReached (Nat.le_of_ble_eq_true rfl) rfl ?_
  have he : jeff [.inr 3, .inr 1, .inl 6, .inl 34, .inl 35, .inl 36, .inl 3, .inl 10, .inl 11] V0 V0 := jeff.refl _ _
  have hkr : jrk a1 V0 V0 := jrk.rf
  obtain ⟨fs_a0, hO_a0, hK_a0⟩ := WT_obj hW id ha0
  obtain ⟨fs_a1, hO_a1, hK_a1⟩ := WT_obj hW id ha1
  have hF_g := hf_g.get hO_a0
  have hrg : (-2147483648) ≤ g.toInt ∧ g.toInt ≤ 2147483647 := jok_rngI hK_a0 rfl hF_g
  have hF_sn := hf_sn.get hO_a0
  have hrsn : 0 ≤ sn.toInt ∧ sn.toInt ≤ 6 := jok_rngI hK_a0 rfl hF_sn
  have hF_b := hf_b.get hO_a0
  have hrb : (-2147483648) ≤ b.toInt ∧ b.toInt ≤ 2147483647 := jok_rngI hK_a0 rfl hF_b
  have hF_qd := hf_qd.get hO_a0
  have hrqd : 0 ≤ qd.toInt ∧ qd.toInt ≤ 2147483647 := jok_rngI hK_a0 rfl hF_qd
  have hF_M := hf_M.get hO_a1
  have hrM : 0 ≤ M.toInt ∧ M.toInt ≤ 120 := jok_rngI hK_a1 rfl hF_M
  have hF_n := hf_n.get hO_a1
  have hrn : 0 ≤ n.toInt ∧ n.toInt ≤ 120 := jok_rngI hK_a1 rfl hF_n
  have hF_st := hr_st.get hO_a0
  obtain ⟨w_st, hFq_st, b_st, hbq_st, hb_st⟩ := hK_a0.2 3 (.inr (some (.inl 3))) rfl
  cases hF_st.symm.trans (hFq_st.trans (congrArg some hbq_st))
  have hF_qu := hr_qu.get hO_a0
  obtain ⟨w_qu, hFq_qu, b_qu, hbq_qu, hb_qu⟩ := hK_a0.2 4 (.inr (some (.inl 10))) rfl
  cases hF_qu.symm.trans (hFq_qu.trans (congrArg some hbq_qu))
  have hF_dg := hr_dg.get hO_a0
  obtain ⟨w_dg, hFq_dg, b_dg, hbq_dg, hb_dg⟩ := hK_a0.2 5 (.inr (some (.inl 11))) rfl
  cases hF_dg.symm.trans (hFq_dg.trans (congrArg some hbq_dg))
  have hF_s := hr_s.get hO_a1
  obtain ⟨w_s, hFq_s, b_s, hbq_s, hb_s⟩ := hK_a1.2 1 (.inr (some (.inl 6))) rfl
  cases hF_s.symm.trans (hFq_s.trans (congrArg some hbq_s))
  have hF_xx := hr_xx.get hO_a1
  obtain ⟨w_xx, hFq_xx, b_xx, hbq_xx, hb_xx⟩ := hK_a1.2 2 (.inr (some (.inl 34))) rfl
  cases hF_xx.symm.trans (hFq_xx.trans (congrArg some hbq_xx))
  have hF_yy := hr_yy.get hO_a1
  obtain ⟨w_yy, hFq_yy, b_yy, hbq_yy, hb_yy⟩ := hK_a1.2 3 (.inr (some (.inl 35))) rfl
  cases hF_yy.symm.trans (hFq_yy.trans (congrArg some hbq_yy))
  have hF_zz := hr_zz.get hO_a1
  obtain ⟨w_zz, hFq_zz, b_zz, hbq_zz, hb_zz⟩ := hK_a1.2 4 (.inr (some (.inl 36))) rfl
  cases hF_zz.symm.trans (hFq_zz.trans (congrArg some hbq_zz))
  obtain ⟨hN_ST, hv_ST⟩ := WT_rngI (r := ((-128), 127)) hW id rfl ha_ST
  clear hN_ST
  obtain ⟨hN_QU, hv_QU⟩ := WT_rngI (r := ((-2147483648), 2147483647)) hW id rfl ha_QU
  clear hN_QU
  obtain ⟨hN_DG, hv_DG⟩ := WT_rngI (r := ((-2147483648), 2147483647)) hW id rfl ha_DG
  clear hN_DG
  obtain ⟨hN_S, hv_S⟩ := WT_rngI (r := ((-2147483648), 2147483647)) hW id rfl ha_S
  clear hN_S
  obtain ⟨hN_X, hv_X⟩ := WT_rngI (r := ((-2147483648), 2147483647)) hW id rfl ha_X
  clear hN_X
  obtain ⟨hN_Y, hv_Y⟩ := WT_rngI (r := ((-2147483648), 2147483647)) hW id rfl ha_Y
  clear hN_Y
  obtain ⟨hN_Z, hv_Z⟩ := WT_rngI (r := ((-2147483648), 2147483647)) hW id rfl ha_Z
  clear hN_Z
  have hjb : 3 ≤ jdir g.toInt ∧ jdir g.toInt ≤ 6 := by have q := jdir_cases g.toInt; omega
  have hDn : (((jdir g.toInt).toNat : Nat) : Int) = jdir g.toInt := Int.toNat_of_nonneg (by omega)
  have hD0 : 0 < (jdir g.toInt).toNat := by omega
  have hR0 : 0 < R := by rw [hp7]; exact jpp hD0 _
  have hjt0 : 0 ≤ jtur g.toInt := by have q := jtur_cases g.toInt; omega
  have hjt9 : jtur g.toInt ≤ 48 := by have q := jtur_cases g.toInt; omega
  refine J_aload_n dX5_countReached_0 rfl ?_
  refine J_aload_n dX5_countReached_1 rfl ?_
  refine J_get jf_X5_19 dX5_countReached_2 hO_a0 hF_g ?_
  refine Jw_callV1 (q9 := (RX3, TX3, 7)) moX3_begin jw_ml_X5_50 jw_im_X3_begin jw_se_X3_begin ha1 rfl rfl dX5_countReached_5 (w_X3_begin_zk (d - 1) _ a1 g M n s xx yy zz S X Y Z (by omega) hW  ha1 ⟨_, hO_a1, hF_M⟩ ⟨_, hO_a1, hF_n⟩ ⟨_, hO_a1, hF_s⟩ ⟨_, hO_a1, hF_xx⟩ ⟨_, hO_a1, hF_yy⟩ ⟨_, hO_a1, hF_zz⟩ ha_S ha_X ha_Y ha_Z) (by omega) (Nat.zero_le _) (Nat.zero_le _) (Nat.le_of_ble_eq_true rfl) (fun r5 V5 h5 => ?_)
  obtain ⟨h5, hX5_0, ⟨fv5_0, hfv5_0, hfp5_0⟩, ⟨fv5_1, hfv5_1, hfp5_1⟩, ⟨fv5_2, hfv5_2, hfp5_2⟩⟩ := h5
  obtain ⟨hW, hx5, hr5⟩ := h5
  have hkr := hkr.trans he.1 hX5_0
  have he := he.trans (hx5.sub (jsub_of rfl))
  have ha0 := ha0.mono hx5.1
  have ha1 := ha1.mono hx5.1
  have hb_st := hb_st.mono hx5.1
  have hb_qu := hb_qu.mono hx5.1
  have hb_dg := hb_dg.mono hx5.1
  have hb_s := hb_s.mono hx5.1
  have hb_xx := hb_xx.mono hx5.1
  have hb_yy := hb_yy.mono hx5.1
  have hb_zz := hb_zz.mono hx5.1
  have hO_a0 := hx5.2 _ _ hO_a0 (jnot_of rfl)
  have hK_a0 := hK_a0.mono hx5.1
  obtain ⟨fs5a1, hOfs5a1, hRfs5a1⟩ := hx5.1.keep hO_a1
  have hKfs5a1 : jokO _ (jFs 1) fs5a1 := hW _ _ id hOfs5a1
  have hFfs5a1_1 := hRfs5a1 _ _ hF_s
  have hFfs5a1_2 := hRfs5a1 _ _ hF_xx
  have hFfs5a1_3 := hRfs5a1 _ _ hF_yy
  have hFfs5a1_4 := hRfs5a1 _ _ hF_zz
  have ha_ST := hx5.2 _ _ ha_ST (jnot_of rfl)
  have ha_QU := hx5.2 _ _ ha_QU (jnot_of rfl)
  have ha_DG := hx5.2 _ _ ha_DG (jnot_of rfl)
  have ha_S := hx5.2 _ _ ha_S (jnot_of rfl)
  have ha_X := hx5.2 _ _ ha_X (jnot_of rfl)
  have ha_Y := hx5.2 _ _ ha_Y (jnot_of rfl)
  have ha_Z := hx5.2 _ _ ha_Z (jnot_of rfl)
  cases hr5
  have hFv5_0 := hfv5_0.get hOfs5a1
  have hsb5_0 : M = fv5_0 := (jI_inj.mp hfp5_0).symm
  subst hsb5_0
  have hFv5_1 := hfv5_1.get hOfs5a1
  have hsb5_1 : g = fv5_1 := (jI_inj.mp hfp5_1).symm
  subst hsb5_1
  have hFv5_2 := hfv5_2.get hOfs5a1
  have hzf5_2 : jEq fv5_2.toInt (0) := hfp5_2
  clear hfp5_2
  refine J_aload_n dX5_countReached_8 rfl ?_
  refine J_aload_n dX5_countReached_9 rfl ?_
  refine Jz_iconst 0 dX5_countReached_10 (by decide) (fun y10 he10 => ?_)
  refine Jz_iconst 0 dX5_countReached_11 (by decide) (fun y11 he11 => ?_)
  refine J_callS4 moX5_markWalks jw_ml_X5_56 jw_st_X5_markWalks dX5_countReached_12 (w_X5_markWalks_z 8 (d - 1) _ a0 a1 y10 y11 sn b M g fv5_2 st s xx yy zz R ST S X Y Z (by omega) hW ha0 ha1 (by (try simp only [he10.eq, true_and, and_true]) <;> omega) (by (try simp only [he10.eq, true_and, and_true]) <;> omega) ⟨_, hO_a0, hF_sn⟩ ⟨_, hO_a0, hF_b⟩ ⟨_, hOfs5a1, hFv5_0⟩ ⟨_, hOfs5a1, hFv5_1⟩ ⟨_, hOfs5a1, hFv5_2⟩ ⟨_, hO_a0, hF_st⟩ ⟨_, hOfs5a1, hFfs5a1_1⟩ ⟨_, hOfs5a1, hFfs5a1_2⟩ ⟨_, hOfs5a1, hFfs5a1_3⟩ ⟨_, hOfs5a1, hFfs5a1_4⟩ ha_ST ha_S ha_X ha_Y ha_Z (by omega) (by omega) (by omega) (by omega) (by rw [hzf5_2.eq, he10.eq]) (by rw [he10.eq]; omega) (by omega) (by rw [he11.eq]; omega) (by omega) hp7 (by rw [he10.eq, he11.eq]; show 0 < _ ^ 0; rw [Nat.pow_zero]; decide) (fun i hi => by rw [he10.eq] at hi; omega) (by rw [hzf5_2.eq]; intro i hi; rw [show i = 0 by omega]; exact ⟨hp10, hp11, hp12⟩) (by rw [hzf5_2.eq]; exact jav.zero) (by (try simp only [he10.eq, he11.eq, hzf5_2.eq, true_and, and_true]) <;> omega)) (by omega) (Nat.zero_le _) (Nat.zero_le _) (Nat.le_of_ble_eq_true rfl) (fun r12 V12 h12 => ?_)
  obtain ⟨h12, hX12_0, hX12_1, hX12_2, ⟨fv12_0, hfv12_0, hfp12_0⟩, ⟨fv12_1, hfv12_1, hfp12_1⟩, ⟨fv12_2, hfv12_2, hfp12_2⟩⟩ := h12
  obtain ⟨hW, hx12, hr12⟩ := h12
  have hkr := hkr.trans he.1 hX12_1
  have he := he.trans (hx12.sub (jsub_of rfl))
  have ha0 := ha0.mono hx12.1
  have ha1 := ha1.mono hx12.1
  have hb_st := hb_st.mono hx12.1
  have hb_qu := hb_qu.mono hx12.1
  have hb_dg := hb_dg.mono hx12.1
  have hb_s := hb_s.mono hx12.1
  have hb_xx := hb_xx.mono hx12.1
  have hb_yy := hb_yy.mono hx12.1
  have hb_zz := hb_zz.mono hx12.1
  have hO_a0 := hx12.2 _ _ hO_a0 (jnot_of rfl)
  have hK_a0 := hK_a0.mono hx12.1
  obtain ⟨fs12a1, hOfs12a1, hRfs12a1⟩ := hx12.1.keep hOfs5a1
  have hKfs12a1 : jokO _ (jFs 1) fs12a1 := hW _ _ id hOfs12a1
  have hFfs12a1_1 := hRfs12a1 _ _ hFfs5a1_1
  have hFfs12a1_2 := hRfs12a1 _ _ hFfs5a1_2
  have hFfs12a1_3 := hRfs12a1 _ _ hFfs5a1_3
  have hFfs12a1_4 := hRfs12a1 _ _ hFfs5a1_4
  have ha_QU := hx12.2 _ _ ha_QU (jnot_of rfl)
  have ha_DG := hx12.2 _ _ ha_DG (jnot_of rfl)
  cases hr12
  have hFv12_0 := hfv12_0.get hOfs12a1
  try simp only [he10.eq, he11.eq, hzf5_2.eq] at hfp12_0
  have hzf12_0 : jEq fv12_0.toInt ((0)) := hfp12_0
  clear hfp12_0
  have hFv12_1 := hfv12_1.get hOfs12a1
  try simp only [he10.eq, he11.eq, hzf5_2.eq] at hfp12_1
  have hsb12_1 : M = fv12_1 := (jI_inj.mp hfp12_1).symm
  subst hsb12_1
  have hFv12_2 := hfv12_2.get hOfs12a1
  try simp only [he10.eq, he11.eq, hzf5_2.eq] at hfp12_2
  have hsb12_2 : g = fv12_2 := (jI_inj.mp hfp12_2).symm
  subst hsb12_2
  obtain ⟨T12, S12, X12, Y12, Z12, hTa12, hSa12, hXa12, hYa12, hZa12, -, -, hmw12⟩ := hX12_0
  have hrs0 : jrs9 (jwlk g.toInt (jdir g.toInt).toNat sn.toInt.toNat) R T12 QU 0 [] := jrs9.init (fun v hv => by
    have q := hmw12
    rw [he10.eq, he11.eq, hp9, show (sn.toInt - 0).toNat = sn.toInt.toNat by omega] at q
    exact jmw.all q v (by rw [← hp7]; exact hv))
  obtain ⟨hN_T12, hv_T12⟩ := WT_rngI (r := ((-128), 127)) hW id rfl hTa12
  clear hN_T12
  refine J_aload_n dX5_countReached_15 rfl ?_
  refine Jz_iconst 0 dX5_countReached_16 (by decide) (fun y16 he16 => ?_)
  refine Jw_callV1 (q9 := (RX5, TX5, 7)) moX5_arriveAt jw_ml_X5_60 jw_im_X5_arriveAt jw_se_X5_arriveAt ha0 rfl rfl dX5_countReached_17 (w_X5_arriveAt_z (d - 1) _ a0 y16 g sn b qd st qu R [] (jwlk g.toInt (jdir g.toInt).toNat sn.toInt.toNat) T12 QU (by omega) hW  ha0 ⟨_, hO_a0, hF_g⟩ ⟨_, hO_a0, hF_sn⟩ ⟨_, hO_a0, hF_b⟩ ⟨_, hO_a0, hF_qd⟩ ⟨_, hO_a0, hF_st⟩ ⟨_, hO_a0, hF_qu⟩ hTa12 ha_QU (by rw [he16.eq]; omega) (by rw [he16.eq]; omega) (by omega) (by rw [hp8]; exact hrs0)) (by omega) (Nat.zero_le _) (Nat.zero_le _) (Nat.le_of_ble_eq_true rfl) (fun r17 V17 h17 => ?_)
  obtain ⟨h17, hX17_0, ⟨fv17_0, hfv17_0, hfp17_0⟩, ⟨fv17_1, hfv17_1, hfp17_1⟩, ⟨fv17_2, hfv17_2, hfp17_2⟩⟩ := h17
  obtain ⟨hW, hx17, hr17⟩ := h17
  have hkr := hkr.trans he.1 (jrk.of hx17 (jdis_of rfl))
  have he := he.trans (hx17.sub (jsub_of rfl))
  have ha0 := ha0.mono hx17.1
  have ha1 := ha1.mono hx17.1
  have hb_st := hb_st.mono hx17.1
  have hb_qu := hb_qu.mono hx17.1
  have hb_dg := hb_dg.mono hx17.1
  have hb_s := hb_s.mono hx17.1
  have hb_xx := hb_xx.mono hx17.1
  have hb_yy := hb_yy.mono hx17.1
  have hb_zz := hb_zz.mono hx17.1
  obtain ⟨fs17a0, hOfs17a0, hRfs17a0⟩ := hx17.1.keep hO_a0
  have hKfs17a0 : jokO _ (jFs 3) fs17a0 := hW _ _ id hOfs17a0
  have hFfs17a0_3 := hRfs17a0 _ _ hF_st
  have hFfs17a0_4 := hRfs17a0 _ _ hF_qu
  have hFfs17a0_5 := hRfs17a0 _ _ hF_dg
  have hOfs12a1 := hx17.2 _ _ hOfs12a1 (jnot_of rfl)
  have hKfs12a1 := hKfs12a1.mono hx17.1
  have ha_DG := hx17.2 _ _ ha_DG (jnot_of rfl)
  cases hr17
  have hFv17_0 := hfv17_0.get hOfs17a0
  try simp only [he16.eq] at hfp17_0
  have hsb17_0 : g = fv17_0 := (jI_inj.mp hfp17_0).symm
  subst hsb17_0
  have hFv17_1 := hfv17_1.get hOfs17a0
  try simp only [he16.eq] at hfp17_1
  have hsb17_1 : sn = fv17_1 := (jI_inj.mp hfp17_1).symm
  subst hsb17_1
  have hFv17_2 := hfv17_2.get hOfs17a0
  try simp only [he16.eq] at hfp17_2
  have hsb17_2 : b = fv17_2 := (jI_inj.mp hfp17_2).symm
  subst hsb17_2
  obtain ⟨T17, Q17, q17, hTa17, hQa17, hqf17, hrs17⟩ := hX17_0
  have hrs1 : jrs9 (jwlk g.toInt (jdir g.toInt).toNat sn.toInt.toNat) R T17 Q17 q17.toInt [0] := by
    have q := hrs17
    rw [he16.eq, show (0 : Int).toNat = 0 from rfl, jadd_yes List.not_mem_nil (jwlk_zero _ _ _)] at q
    exact q
  have hFv176 := hqf17.get hOfs17a0
  obtain ⟨hN_T17, hv_T17⟩ := WT_rngI (r := ((-128), 127)) hW id rfl hTa17
  clear hN_T17
  obtain ⟨hN_Q17, hv_Q17⟩ := WT_rngI (r := ((-2147483648), 2147483647)) hW id rfl hQa17
  clear hN_Q17
  refine Jz_iconst 0 dX5_countReached_20 (by decide) (fun y20 he20 => ?_)
  refine J_istore_n dX5_countReached_21 rfl (by decide) ?_
  have L22 : ∀ (N : Nat) (V : jH) (i2n22 : Int32) (gs22a0 : List Value) (g6n22 : Int32) (F3n22 : Nat → Int32) (F10n22 : Nat → Int32) (F11n22 : Nat → Int32), WT V → jeff [.inr 3, .inr 1, .inl 6, .inl 34, .inl 35, .inl 36, .inl 3, .inl 10, .inl 11] V0 V → (jis V (.inr 3) a0) → (jis V (.inr 1) a1) → (jis V (.inl 3) st) → (jis V (.inl 10) qu) → (jis V (.inl 11) dg) → (jis V (.inl 6) s) → (jis V (.inl 34) xx) → (jis V (.inl 35) yy) → (jis V (.inl 36) zz) → (jrk a1 V0 V) → (V a0 = some (.inr (3, gs22a0))) → (gs22a0[3]? = some (.ref st)) → (gs22a0[4]? = some (.ref qu)) → (gs22a0[5]? = some (.ref dg)) → (gs22a0[0]? = some (.int g)) → (gs22a0[1]? = some (.int sn)) → (gs22a0[2]? = some (.int b)) → (gs22a0[6]? = some (.int g6n22)) → (V a1 = some (.inr (1, fs12a1))) → (jokO V (jFs 1) fs12a1) → (V st = some (.inl (3, R, .inl F3n22))) → (V qu = some (.inl (10, R, .inl F10n22))) → (V dg = some (.inl (11, 6, .inl F11n22))) → (0 ≤ i2n22.toInt ∧ i2n22.toInt ≤ (R : Int)) → (jbi g.toInt (jdir g.toInt).toNat sn.toInt.toNat (jtur g.toInt).toNat R F3n22 F10n22 g6n22.toInt i2n22.toInt.toNat) → (20000 - i2n22.toInt).toNat < N → J tS mX5_countReached d 22 [some (.ref a0), some (.ref a1), some (.int i2n22), none, none] [] V 0 0 (fun r V => (jPost [.inr 3, .inr 1, .inl 6, .inl 34, .inl 35, .inl 36, .inl 3, .inl 10, .inl 11] V0 (fun r _ => ∃ y : Int32, r = some (.int y) ∧ ((-2147483648) ≤ y.toInt) ∧ (y.toInt ≤ 2147483647) ∧ (y.toInt = (((jbf g.toInt (jdir g.toInt).toNat sn.toInt.toNat (jtur g.toInt).toNat (R + 1) 0 [0]).length : Nat) : Int)))) r V ∧ jrk a1 V0 V) := by
    intro N
    induction N with
    | zero => intro V i2n22 gs22a0 g6n22 F3n22 F10n22 F11n22 hW he ha0 ha1 hb_st hb_qu hb_dg hb_s hb_xx hb_yy hb_zz hkr hOgs22a0 hFgs22a0_3 hFgs22a0_4 hFgs22a0_5 hFgs22a0_0 hFgs22a0_1 hFgs22a0_2 hFgs22a0_6 hOfs12a1 hKfs12a1 hAF3n22 hAF10n22 hAF11n22 hi2 hbi hm; exact absurd hm (Nat.not_lt_zero _)
    | succ N ih =>
      intro V i2n22 gs22a0 g6n22 F3n22 F10n22 F11n22 hW he ha0 ha1 hb_st hb_qu hb_dg hb_s hb_xx hb_yy hb_zz hkr hOgs22a0 hFgs22a0_3 hFgs22a0_4 hFgs22a0_5 hFgs22a0_0 hFgs22a0_1 hFgs22a0_2 hFgs22a0_6 hOfs12a1 hKfs12a1 hAF3n22 hAF10n22 hAF11n22 hi2 hbi hm
      have ih22 := ih
      have hri2 := j_rng i2n22
      have hKgs22a0 : jokO V (jFs 3) gs22a0 := hW _ _ id hOgs22a0
      have hrgg6n22 : 0 ≤ g6n22.toInt ∧ g6n22.toInt ≤ 2147483647 := jok_rngI hKgs22a0 rfl hFgs22a0_6
      obtain ⟨hNF3n22, hvF3n22⟩ := WT_rngI (r := ((-128), 127)) hW id rfl hAF3n22
      clear hNF3n22
      obtain ⟨hNF10n22, hvF10n22⟩ := WT_rngI (r := ((-2147483648), 2147483647)) hW id rfl hAF10n22
      clear hNF10n22
      obtain ⟨hNF11n22, hvF11n22⟩ := WT_rngI (r := ((-2147483648), 2147483647)) hW id rfl hAF11n22
      clear hNF11n22
      obtain ⟨L, hrs, hjb9⟩ := hbi
      have hln := hrs.len
      refine J_iload_n dX5_countReached_22 rfl ?_
      refine J_aload_n dX5_countReached_23 rfl ?_
      refine J_get jf_X5_15 dX5_countReached_24 hOgs22a0 hFgs22a0_6 ?_
      refine Jz_icmp_ge (tgt := 103) jEq.rf jEq.rf dX5_countReached_27 (by decide) (fun c27 => ?_) (fun c27 => ?_)
      · refine J_aload_n dX5_countReached_103 rfl ?_
        refine J_get jf_X5_15 dX5_countReached_104 hOgs22a0 hFgs22a0_6 ?_
        exact J_ret (r := some (.int _)) dX5_countReached_107 ⟨rfl, _, rfl, rfl⟩ (⟨⟨hW, he, ⟨_, rfl, (j_rng _).1, (j_rng _).2, (by rw [hln.1, ← hjb9, jbf_done (q := L) (h := i2n22.toInt.toNat) (by omega)])⟩⟩, hkr⟩)
      · refine J_iload_n dX5_countReached_30 rfl ?_
        refine J_aload_n dX5_countReached_31 rfl ?_
        refine J_get jf_X5_47 dX5_countReached_32 hOgs22a0 hFgs22a0_4 ?_
        refine J_alen dX5_countReached_35 hAF10n22 rfl rfl ?_
        have he35 : jEq (Int32.ofNat R).toInt R := nI_toInt (by omega)
        generalize Int32.ofNat R = y35 at he35 ⊢
        refine Jz_icmp_ge (tgt := 103) jEq.rf he35 dX5_countReached_36 (by decide) (fun c36 => (show False by omega).elim) (fun c36 => ?_)
        refine J_aload_n dX5_countReached_39 rfl ?_
        refine J_aload_n dX5_countReached_40 rfl ?_
        refine J_get jf_X5_47 dX5_countReached_41 hOgs22a0 hFgs22a0_4 ?_
        refine J_iload_n dX5_countReached_44 rfl ?_
        refine Jz_iald (r := ((-2147483648), 2147483647)) jEq.rf dX5_countReached_45 hAF10n22 rfl hvF10n22 (by omega) (by omega) (fun y45 hf45 hl45 hh45 => ?_)
        dsimp only at hl45 hh45
        clear hl45 hh45
        have hv45 : y45.toInt = (((jnth L i2n22.toInt.toNat) : Nat) : Int) := by rw [← hf45]; exact hrs.2.1 _ (by omega)
        have hvR := hrs.2.2.1 _ (jnth_mem L i2n22.toInt.toNat (by omega))
        refine Jw_callV1 (q9 := (RX5, TX5, 7)) moX5_takeApart jw_ml_X5_63 jw_im_X5_takeApart jw_se_X5_takeApart ha0 rfl rfl dX5_countReached_46 (w_X5_takeApart_z (d - 1) _ a0 y45 sn b dg F11n22 (by omega) hW  ha0 ⟨_, hOgs22a0, hFgs22a0_1⟩ ⟨_, hOgs22a0, hFgs22a0_2⟩ ⟨_, hOgs22a0, hFgs22a0_5⟩ hAF11n22 (by omega) (by omega) (by omega) (by omega) (by omega)) (by omega) (Nat.zero_le _) (Nat.zero_le _) (Nat.le_of_ble_eq_true rfl) (fun r46 V46 h46 => ?_)
        obtain ⟨h46, hX46_0⟩ := h46
        obtain ⟨hW, hx46, hr46⟩ := h46
        have hkr := hkr.trans he.1 (jrk.of hx46 (jdis_of rfl))
        have he := he.trans (hx46.sub (jsub_of rfl))
        have ha0 := ha0.mono hx46.1
        have ha1 := ha1.mono hx46.1
        have hb_st := hb_st.mono hx46.1
        have hb_qu := hb_qu.mono hx46.1
        have hb_dg := hb_dg.mono hx46.1
        have hb_s := hb_s.mono hx46.1
        have hb_xx := hb_xx.mono hx46.1
        have hb_yy := hb_yy.mono hx46.1
        have hb_zz := hb_zz.mono hx46.1
        have hOgs22a0 := hx46.2 _ _ hOgs22a0 (jnot_of rfl)
        have hKgs22a0 := hKgs22a0.mono hx46.1
        have hOfs12a1 := hx46.2 _ _ hOfs12a1 (jnot_of rfl)
        have hKfs12a1 := hKfs12a1.mono hx46.1
        have hAF3n22 := hx46.2 _ _ hAF3n22 (jnot_of rfl)
        have hAF10n22 := hx46.2 _ _ hAF10n22 (jnot_of rfl)
        cases hr46
        obtain ⟨DG46, hDa46, hDe46⟩ := hX46_0
        rw [hp3, show y45.toInt.toNat = (jnth L i2n22.toInt.toNat) by omega] at hDe46
        obtain ⟨hN_DG46, hv_DG46⟩ := WT_rngI (r := ((-2147483648), 2147483647)) hW id rfl hDa46
        clear hN_DG46
        refine Jz_iconst 0 dX5_countReached_49 (by decide) (fun y49 he49 => ?_)
        refine J_istore_n dX5_countReached_50 rfl (by decide) ?_
        have L51 : ∀ (N : Nat) (V : jH) (i3n51 : Int32) (gs51a0 : List Value) (g6n51 : Int32) (F3n51 : Nat → Int32) (F10n51 : Nat → Int32), WT V → jeff [.inr 3, .inr 1, .inl 6, .inl 34, .inl 35, .inl 36, .inl 3, .inl 10, .inl 11] V0 V → (jis V (.inr 3) a0) → (jis V (.inr 1) a1) → (jis V (.inl 3) st) → (jis V (.inl 10) qu) → (jis V (.inl 11) dg) → (jis V (.inl 6) s) → (jis V (.inl 34) xx) → (jis V (.inl 35) yy) → (jis V (.inl 36) zz) → (jrk a1 V0 V) → (V a0 = some (.inr (3, gs51a0))) → (gs51a0[3]? = some (.ref st)) → (gs51a0[4]? = some (.ref qu)) → (gs51a0[5]? = some (.ref dg)) → (gs51a0[0]? = some (.int g)) → (gs51a0[1]? = some (.int sn)) → (gs51a0[2]? = some (.int b)) → (gs51a0[6]? = some (.int g6n51)) → (V a1 = some (.inr (1, fs12a1))) → (jokO V (jFs 1) fs12a1) → (V st = some (.inl (3, R, .inl F3n51))) → (V qu = some (.inl (10, R, .inl F10n51))) → (V dg = some (.inl (11, 6, .inl DG46))) → (0 ≤ i3n51.toInt ∧ i3n51.toInt ≤ sn.toInt) → (jrs9 (jwlk g.toInt (jdir g.toInt).toNat sn.toInt.toNat) R F3n51 F10n51 g6n51.toInt (jtas g.toInt (jdir g.toInt).toNat sn.toInt.toNat (jtur g.toInt).toNat (jnth L i2n22.toInt.toNat) L (i3n51.toInt.toNat * (jtur g.toInt).toNat))) → (300 - i3n51.toInt).toNat < N → J tS mX5_countReached d 51 [some (.ref a0), some (.ref a1), some (.int i2n22), some (.int i3n51), none] [] V 0 0 (fun r V => (jPost [.inr 3, .inr 1, .inl 6, .inl 34, .inl 35, .inl 36, .inl 3, .inl 10, .inl 11] V0 (fun r _ => ∃ y : Int32, r = some (.int y) ∧ ((-2147483648) ≤ y.toInt) ∧ (y.toInt ≤ 2147483647) ∧ (y.toInt = (((jbf g.toInt (jdir g.toInt).toNat sn.toInt.toNat (jtur g.toInt).toNat (R + 1) 0 [0]).length : Nat) : Int)))) r V ∧ jrk a1 V0 V) := by
          intro N
          induction N with
          | zero => intro V i3n51 gs51a0 g6n51 F3n51 F10n51 hW he ha0 ha1 hb_st hb_qu hb_dg hb_s hb_xx hb_yy hb_zz hkr hOgs51a0 hFgs51a0_3 hFgs51a0_4 hFgs51a0_5 hFgs51a0_0 hFgs51a0_1 hFgs51a0_2 hFgs51a0_6 hOfs12a1 hKfs12a1 hAF3n51 hAF10n51 hDa46 hi3 hq3 hm; exact absurd hm (Nat.not_lt_zero _)
          | succ N ih =>
            intro V i3n51 gs51a0 g6n51 F3n51 F10n51 hW he ha0 ha1 hb_st hb_qu hb_dg hb_s hb_xx hb_yy hb_zz hkr hOgs51a0 hFgs51a0_3 hFgs51a0_4 hFgs51a0_5 hFgs51a0_0 hFgs51a0_1 hFgs51a0_2 hFgs51a0_6 hOfs12a1 hKfs12a1 hAF3n51 hAF10n51 hDa46 hi3 hq3 hm
            have ih51 := ih
            have hri3 := j_rng i3n51
            have hKgs51a0 : jokO V (jFs 3) gs51a0 := hW _ _ id hOgs51a0
            have hrgg6n51 : 0 ≤ g6n51.toInt ∧ g6n51.toInt ≤ 2147483647 := jok_rngI hKgs51a0 rfl hFgs51a0_6
            obtain ⟨hNF3n51, hvF3n51⟩ := WT_rngI (r := ((-128), 127)) hW id rfl hAF3n51
            clear hNF3n51
            obtain ⟨hNF10n51, hvF10n51⟩ := WT_rngI (r := ((-2147483648), 2147483647)) hW id rfl hAF10n51
            clear hNF10n51
            refine J_iload_n dX5_countReached_51 rfl ?_
            refine J_aload_n dX5_countReached_52 rfl ?_
            refine J_get jf_X5_31 dX5_countReached_53 hOgs51a0 hFgs51a0_1 ?_
            refine Jz_icmp_ge (tgt := 97) jEq.rf jEq.rf dX5_countReached_56 (by decide) (fun c56 => ?_) (fun c56 => ?_)
            · refine Jz_iinc 1 dX5_countReached_97 rfl rfl (by decide) jEq.rf (by decide) (by omega) (by omega) (fun y97 he97 => ?_)
              refine J_goto (tgt := 22) dX5_countReached_100 (by decide) ?_
              refine J.mask [true, true, true, false, false] ?_
              exact ih22 _ y97 gs51a0 g6n51 F3n51 F10n51 DG46 hW he ha0 ha1 hb_st hb_qu hb_dg hb_s hb_xx hb_yy hb_zz hkr hOgs51a0 hFgs51a0_3 hFgs51a0_4 hFgs51a0_5 hFgs51a0_0 hFgs51a0_1 hFgs51a0_2 hFgs51a0_6 hOfs12a1 hKfs12a1 hAF3n51 hAF10n51 hDa46 (by (try simp only [he97.eq, true_and, and_true]) <;> omega) (by rw [he97.eq, show (i2n22.toInt + 1).toNat = i2n22.toInt.toNat + 1 by omega]; exact ⟨_, (by have q := hq3; rw [show i3n51.toInt.toNat = sn.toInt.toNat by omega] at q; exact q), jbf_next (by omega) hln.2 hjb9⟩) (by (try simp only [he97.eq, true_and, and_true]) <;> omega)
            · refine Jz_iconst 0 dX5_countReached_59 (by decide) (fun y59 he59 => ?_)
              refine J_istore dX5_countReached_60 rfl (by decide) ?_
              have L62 : ∀ (N : Nat) (V : jH) (i4n62 : Int32) (gs62a0 : List Value) (g6n62 : Int32) (F3n62 : Nat → Int32) (F10n62 : Nat → Int32), WT V → jeff [.inr 3, .inr 1, .inl 6, .inl 34, .inl 35, .inl 36, .inl 3, .inl 10, .inl 11] V0 V → (jis V (.inr 3) a0) → (jis V (.inr 1) a1) → (jis V (.inl 3) st) → (jis V (.inl 10) qu) → (jis V (.inl 11) dg) → (jis V (.inl 6) s) → (jis V (.inl 34) xx) → (jis V (.inl 35) yy) → (jis V (.inl 36) zz) → (jrk a1 V0 V) → (V a0 = some (.inr (3, gs62a0))) → (gs62a0[3]? = some (.ref st)) → (gs62a0[4]? = some (.ref qu)) → (gs62a0[5]? = some (.ref dg)) → (gs62a0[0]? = some (.int g)) → (gs62a0[1]? = some (.int sn)) → (gs62a0[2]? = some (.int b)) → (gs62a0[6]? = some (.int g6n62)) → (V a1 = some (.inr (1, fs12a1))) → (jokO V (jFs 1) fs12a1) → (V st = some (.inl (3, R, .inl F3n62))) → (V qu = some (.inl (10, R, .inl F10n62))) → (V dg = some (.inl (11, 6, .inl DG46))) → (0 ≤ i4n62.toInt ∧ i4n62.toInt ≤ jtur g.toInt) → (jrs9 (jwlk g.toInt (jdir g.toInt).toNat sn.toInt.toNat) R F3n62 F10n62 g6n62.toInt (jtas g.toInt (jdir g.toInt).toNat sn.toInt.toNat (jtur g.toInt).toNat (jnth L i2n22.toInt.toNat) L (i3n51.toInt.toNat * (jtur g.toInt).toNat + i4n62.toInt.toNat))) → (300 - i4n62.toInt).toNat < N → J tS mX5_countReached d 62 [some (.ref a0), some (.ref a1), some (.int i2n22), some (.int i3n51), some (.int i4n62)] [] V 0 0 (fun r V => (jPost [.inr 3, .inr 1, .inl 6, .inl 34, .inl 35, .inl 36, .inl 3, .inl 10, .inl 11] V0 (fun r _ => ∃ y : Int32, r = some (.int y) ∧ ((-2147483648) ≤ y.toInt) ∧ (y.toInt ≤ 2147483647) ∧ (y.toInt = (((jbf g.toInt (jdir g.toInt).toNat sn.toInt.toNat (jtur g.toInt).toNat (R + 1) 0 [0]).length : Nat) : Int)))) r V ∧ jrk a1 V0 V) := by
                intro N
                induction N with
                | zero => intro V i4n62 gs62a0 g6n62 F3n62 F10n62 hW he ha0 ha1 hb_st hb_qu hb_dg hb_s hb_xx hb_yy hb_zz hkr hOgs62a0 hFgs62a0_3 hFgs62a0_4 hFgs62a0_5 hFgs62a0_0 hFgs62a0_1 hFgs62a0_2 hFgs62a0_6 hOfs12a1 hKfs12a1 hAF3n62 hAF10n62 hDa46 hi4 hq4 hm; exact absurd hm (Nat.not_lt_zero _)
                | succ N ih =>
                  intro V i4n62 gs62a0 g6n62 F3n62 F10n62 hW he ha0 ha1 hb_st hb_qu hb_dg hb_s hb_xx hb_yy hb_zz hkr hOgs62a0 hFgs62a0_3 hFgs62a0_4 hFgs62a0_5 hFgs62a0_0 hFgs62a0_1 hFgs62a0_2 hFgs62a0_6 hOfs12a1 hKfs12a1 hAF3n62 hAF10n62 hDa46 hi4 hq4 hm
                  have ih62 := ih
                  have hri4 := j_rng i4n62
                  have hKgs62a0 : jokO V (jFs 3) gs62a0 := hW _ _ id hOgs62a0
                  have hrgg6n62 : 0 ≤ g6n62.toInt ∧ g6n62.toInt ≤ 2147483647 := jok_rngI hKgs62a0 rfl hFgs62a0_6
                  obtain ⟨hNF3n62, hvF3n62⟩ := WT_rngI (r := ((-128), 127)) hW id rfl hAF3n62
                  clear hNF3n62
                  obtain ⟨hNF10n62, hvF10n62⟩ := WT_rngI (r := ((-2147483648), 2147483647)) hW id rfl hAF10n62
                  clear hNF10n62
                  refine J_iload dX5_countReached_62 rfl ?_
                  refine J_aload_n dX5_countReached_64 rfl ?_
                  refine J_get jf_X5_19 dX5_countReached_65 hOgs62a0 hFgs62a0_0 ?_
                  refine J_callS1 moX0_turns jw_ml_X5_66 jw_st_X0_turns dX5_countReached_68 (w_X0_turns_z (d - 1) _ g (by omega)   (by omega) (by omega)) (by omega) (Nat.zero_le _) (Nat.zero_le _) (Nat.le_of_ble_eq_true rfl) (fun r68 V68 h68 => ?_)
                  obtain ⟨⟨y68, rfl, hl68, hh68, hP68_0⟩, hE68⟩ := h68
                  have hE68 := hE68.symm
                  subst hE68
                  clear hl68 hh68
                  have hz68 : jEq y68.toInt (jtur (g.toInt)) := hP68_0
                  clear hP68_0
                  refine Jz_icmp_ge (tgt := 91) jEq.rf hz68 dX5_countReached_71 (by decide) (fun c71 => ?_) (fun c71 => ?_)
                  · refine Jz_iinc 1 dX5_countReached_91 rfl rfl (by decide) jEq.rf (by decide) (by omega) (by omega) (fun y91 he91 => ?_)
                    refine J_goto (tgt := 51) dX5_countReached_94 (by decide) ?_
                    refine J.mask [true, true, true, true, false] ?_
                    exact ih51 _ y91 gs62a0 g6n62 F3n62 F10n62 hW he ha0 ha1 hb_st hb_qu hb_dg hb_s hb_xx hb_yy hb_zz hkr hOgs62a0 hFgs62a0_3 hFgs62a0_4 hFgs62a0_5 hFgs62a0_0 hFgs62a0_1 hFgs62a0_2 hFgs62a0_6 hOfs12a1 hKfs12a1 hAF3n62 hAF10n62 hDa46 (by (try simp only [he91.eq, true_and, and_true]) <;> omega) (by rw [he91.eq, show (i3n51.toInt + 1).toNat = i3n51.toInt.toNat + 1 by omega, Nat.add_mul, Nat.one_mul]; have q := hq4; rw [show i4n62.toInt.toNat = (jtur g.toInt).toNat by omega] at q; exact q) (by (try simp only [he91.eq, true_and, and_true]) <;> omega)
                  · refine J_aload_n dX5_countReached_74 rfl ?_
                    refine J_aload_n dX5_countReached_75 rfl ?_
                    refine J_iload_n dX5_countReached_76 rfl ?_
                    refine J_iload dX5_countReached_77 rfl ?_
                    refine Jw_callV2 (q9 := (RX5, TX5, 7)) moX5_numberTurned jw_ml_X5_69 jw_im_X5_numberTurned jw_se_X5_numberTurned ha0 rfl rfl dX5_countReached_79 (w_X5_numberTurned_z (d - 1) _ a0 i3n51 i4n62 g sn b dg DG46 (by omega) hW  ha0 ⟨_, hOgs62a0, hFgs62a0_0⟩ ⟨_, hOgs62a0, hFgs62a0_1⟩ ⟨_, hOgs62a0, hFgs62a0_2⟩ ⟨_, hOgs62a0, hFgs62a0_5⟩ hDa46 (by omega) (by omega) (by omega) (by omega) (by omega) (by omega) (by omega) (by omega) (by omega) (fun i hi => by rw [hDe46 i hi]; have q := jdg9_b (D := (jdir g.toInt).toNat) (n := sn.toInt.toNat) (v := (jnth L i2n22.toInt.toNat)) (i := i) (by omega); omega)) (by omega) (Nat.zero_le _) (Nat.zero_le _) (Nat.le_of_ble_eq_true rfl) (fun r79 V79 h79 => ?_)
                    obtain ⟨⟨y79, rfl, hl79, hh79, hP79_0⟩, hE79⟩ := h79
                    have hE79 := hE79.symm
                    subst hE79
                    clear hl79 hh79
                    have e3 : ((i3n51.toInt.toNat : Nat) : Int) = i3n51.toInt := Int.toNat_of_nonneg (by omega)
                    have e4 : ((i4n62.toInt.toNat : Nat) : Int) = i4n62.toInt := Int.toNat_of_nonneg (by omega)
                    have hto : y79.toInt = ((jto g.toInt (jdir g.toInt).toNat sn.toInt.toNat (jnth L i2n22.toInt.toNat) i3n51.toInt.toNat i4n62.toInt : Nat) : Int) := by
                      rw [hP79_0]
                      exact congrArg (fun z : Nat => (z : Int)) (jto_eq e3 (fun i hi => hDe46 i (by omega)))
                    have htl : jto g.toInt (jdir g.toInt).toNat sn.toInt.toNat (jnth L i2n22.toInt.toNat) i3n51.toInt.toNat i4n62.toInt < R := by
                      rw [hp7]
                      exact jto_lt e3 ⟨hp1, hp2⟩ ⟨hi4.1, by omega⟩ hDn hD0
                    refine Jw_callV1 (q9 := (RX5, TX5, 7)) moX5_arriveAt jw_ml_X5_60 jw_im_X5_arriveAt jw_se_X5_arriveAt ha0 rfl rfl dX5_countReached_82 (w_X5_arriveAt_z (d - 1) _ a0 y79 g sn b g6n62 st qu R (jtas g.toInt (jdir g.toInt).toNat sn.toInt.toNat (jtur g.toInt).toNat (jnth L i2n22.toInt.toNat) L (i3n51.toInt.toNat * (jtur g.toInt).toNat + i4n62.toInt.toNat)) (jwlk g.toInt (jdir g.toInt).toNat sn.toInt.toNat) F3n62 F10n62 (by omega) hW  ha0 ⟨_, hOgs62a0, hFgs62a0_0⟩ ⟨_, hOgs62a0, hFgs62a0_1⟩ ⟨_, hOgs62a0, hFgs62a0_2⟩ ⟨_, hOgs62a0, hFgs62a0_6⟩ ⟨_, hOgs62a0, hFgs62a0_3⟩ ⟨_, hOgs62a0, hFgs62a0_4⟩ hAF3n62 hAF10n62 (by omega) (by omega) (by omega) hq4) (by omega) (Nat.zero_le _) (Nat.zero_le _) (Nat.le_of_ble_eq_true rfl) (fun r82 V82 h82 => ?_)
                    obtain ⟨h82, hX82_0, ⟨fv82_0, hfv82_0, hfp82_0⟩, ⟨fv82_1, hfv82_1, hfp82_1⟩, ⟨fv82_2, hfv82_2, hfp82_2⟩⟩ := h82
                    obtain ⟨hW, hx82, hr82⟩ := h82
                    have hkr := hkr.trans he.1 (jrk.of hx82 (jdis_of rfl))
                    have he := he.trans (hx82.sub (jsub_of rfl))
                    have ha0 := ha0.mono hx82.1
                    have ha1 := ha1.mono hx82.1
                    have hb_st := hb_st.mono hx82.1
                    have hb_qu := hb_qu.mono hx82.1
                    have hb_dg := hb_dg.mono hx82.1
                    have hb_s := hb_s.mono hx82.1
                    have hb_xx := hb_xx.mono hx82.1
                    have hb_yy := hb_yy.mono hx82.1
                    have hb_zz := hb_zz.mono hx82.1
                    obtain ⟨fs82a0, hOfs82a0, hRfs82a0⟩ := hx82.1.keep hOgs62a0
                    have hKfs82a0 : jokO _ (jFs 3) fs82a0 := hW _ _ id hOfs82a0
                    have hFfs82a0_3 := hRfs82a0 _ _ hFgs62a0_3
                    have hFfs82a0_4 := hRfs82a0 _ _ hFgs62a0_4
                    have hFfs82a0_5 := hRfs82a0 _ _ hFgs62a0_5
                    have hOfs12a1 := hx82.2 _ _ hOfs12a1 (jnot_of rfl)
                    have hKfs12a1 := hKfs12a1.mono hx82.1
                    have hDa46 := hx82.2 _ _ hDa46 (jnot_of rfl)
                    cases hr82
                    have hFv82_0 := hfv82_0.get hOfs82a0
                    have hsb82_0 : g = fv82_0 := (jI_inj.mp hfp82_0).symm
                    subst hsb82_0
                    have hFv82_1 := hfv82_1.get hOfs82a0
                    have hsb82_1 : sn = fv82_1 := (jI_inj.mp hfp82_1).symm
                    subst hsb82_1
                    have hFv82_2 := hfv82_2.get hOfs82a0
                    have hsb82_2 : b = fv82_2 := (jI_inj.mp hfp82_2).symm
                    subst hsb82_2
                    obtain ⟨T82, Q82, q82, hTa82, hQa82, hqf82, hrs82⟩ := hX82_0
                    have hq5 : jrs9 (jwlk g.toInt (jdir g.toInt).toNat sn.toInt.toNat) R T82 Q82 q82.toInt (jtas g.toInt (jdir g.toInt).toNat sn.toInt.toNat (jtur g.toInt).toNat (jnth L i2n22.toInt.toNat) L (i3n51.toInt.toNat * (jtur g.toInt).toNat + (i4n62.toInt.toNat + 1))) := by
                      rw [jtas_step (by omega), e4]
                      have q := hrs82
                      rw [show y79.toInt.toNat = jto g.toInt (jdir g.toInt).toNat sn.toInt.toNat (jnth L i2n22.toInt.toNat) i3n51.toInt.toNat i4n62.toInt by omega] at q
                      exact q
                    have hFv826 := hqf82.get hOfs82a0
                    obtain ⟨hN_T82, hv_T82⟩ := WT_rngI (r := ((-128), 127)) hW id rfl hTa82
                    clear hN_T82
                    obtain ⟨hN_Q82, hv_Q82⟩ := WT_rngI (r := ((-2147483648), 2147483647)) hW id rfl hQa82
                    clear hN_Q82
                    refine Jz_iinc 1 dX5_countReached_85 rfl rfl (by decide) jEq.rf (by decide) (by omega) (by omega) (fun y85 he85 => ?_)
                    refine J_goto (tgt := 62) dX5_countReached_88 (by decide) ?_
                    refine J.mask [true, true, true, true, true] ?_
                    exact ih62 _ y85 fs82a0 q82 T82 Q82 hW he ha0 ha1 hb_st hb_qu hb_dg hb_s hb_xx hb_yy hb_zz hkr hOfs82a0 hFfs82a0_3 hFfs82a0_4 hFfs82a0_5 hFv82_0 hFv82_1 hFv82_2 hFv826 hOfs12a1 hKfs12a1 hTa82 hQa82 hDa46 (by (try simp only [he85.eq, true_and, and_true]) <;> omega) (by rw [he85.eq, show (i4n62.toInt + 1).toNat = i4n62.toInt.toNat + 1 by omega]; exact hq5) (by (try simp only [he85.eq, true_and, and_true]) <;> omega)
              refine J.mask [true, true, true, true, true] ?_
              exact L62 _ _ y59 gs51a0 g6n51 F3n51 F10n51 hW he ha0 ha1 hb_st hb_qu hb_dg hb_s hb_xx hb_yy hb_zz hkr hOgs51a0 hFgs51a0_3 hFgs51a0_4 hFgs51a0_5 hFgs51a0_0 hFgs51a0_1 hFgs51a0_2 hFgs51a0_6 hOfs12a1 hKfs12a1 hAF3n51 hAF10n51 hDa46 (by (try simp only [he59.eq, true_and, and_true]) <;> omega) (by rw [he59.eq, show (0 : Int).toNat = 0 from rfl, Nat.add_zero]; exact hq3) (Nat.lt_succ_self _)
        refine J.mask [true, true, true, true, false] ?_
        exact L51 _ _ y49 gs22a0 g6n22 F3n22 F10n22 hW he ha0 ha1 hb_st hb_qu hb_dg hb_s hb_xx hb_yy hb_zz hkr hOgs22a0 hFgs22a0_3 hFgs22a0_4 hFgs22a0_5 hFgs22a0_0 hFgs22a0_1 hFgs22a0_2 hFgs22a0_6 hOfs12a1 hKfs12a1 hAF3n22 hAF10n22 hDa46 (by (try simp only [he49.eq, true_and, and_true]) <;> omega) (by rw [he49.eq, show (0 : Int).toNat = 0 from rfl, Nat.zero_mul]; exact hrs) (Nat.lt_succ_self _)
  refine J.mask [true, true, true, false, false] ?_
  exact L22 _ _ y20 fs17a0 q17 T17 Q17 DG hW he ha0 ha1 hb_st hb_qu hb_dg hb_s hb_xx hb_yy hb_zz hkr hOfs17a0 hFfs17a0_3 hFfs17a0_4 hFfs17a0_5 hFv17_0 hFv17_1 hFv17_2 hFv176 hOfs12a1 hKfs12a1 hTa17 hQa17 ha_DG (by (try simp only [he20.eq, true_and, and_true]) <;> omega) (by rw [he20.eq]; exact ⟨[0], hrs1, rfl⟩) (Nat.lt_succ_self _)
