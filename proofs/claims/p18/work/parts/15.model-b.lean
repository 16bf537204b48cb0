set_option maxRecDepth 100000 in
set_option maxHeartbeats 8000000 in
theorem w_X7_becomes_no {tS : jTS} (d : Nat) (V0 : jH) (a0 : Nat) (x1 : Int32) (n : Int32) (gr : Nat) (mn : Nat) (sp : Nat) (rw : Nat) (px : Nat) (py : Nat) (pz : Nat) (GA : Nat → Int32) (MN : Nat → Int32) (SP : Nat → Int32) (RW : Nat → Int32) (PX : Nat → Int32) (PY : Nat → Int32) (PZ : Nat → Int32) (hd : 2 ≤ d) (hW : WT V0) (ha0 : jis V0 (.inr 5) a0) (hf_n : jfI V0 a0 5 5 n) (hr_gr : jfR V0 a0 5 1 gr) (hr_mn : jfR V0 a0 5 2 mn) (hr_sp : jfR V0 a0 5 3 sp) (hr_rw : jfR V0 a0 5 4 rw) (hr_px : jfR V0 a0 5 6 px) (hr_py : jfR V0 a0 5 7 py) (hr_pz : jfR V0 a0 5 8 pz) (ha_GA : V0 gr = some (.inl (14, 16, .inl GA))) (ha_MN : V0 mn = some (.inl (15, 16, .inl MN))) (ha_SP : V0 sp = some (.inl (16, 960, .inl SP))) (ha_RW : V0 rw = some (.inl (17, 120, .inl RW))) (ha_PX : V0 px = some (.inl (18, 121, .inl PX))) (ha_PY : V0 py = some (.inl (19, 121, .inl PY))) (ha_PZ : V0 pz = some (.inl (20, 121, .inl PZ))) (hp0 : 0 ≤ x1.toInt) (hp1 : x1.toInt ≤ 15) (hp2 : ¬ jav (GA x1.toInt.toNat).toInt (fun q => (RW q).toInt) n.toInt.toNat) : jTot tS mX7_becomes d [.ref a0, .int x1] V0 0 0 (jPost [.inl 18, .inl 19, .inl 20] V0 (fun r _ => ∃ y : Int32, r = some (.int y) ∧ ((-2147483648) ≤ y.toInt) ∧ (y.toInt ≤ 2147483647) ∧ (y.toInt = -3))) := by
  refine jTot.of_J [some (.ref a0), some (.int x1)] moX7_becomes (Nat.le_of_ble_eq_true rfl) rfl ?_
  have hrx1 := j_rng x1
  have he : jeff [.inl 18, .inl 19, .inl 20] V0 V0 := jeff.refl _ _
  obtain ⟨fs_a0, hO_a0, hK_a0⟩ := WT_obj hW id ha0
  have hF_n := hf_n.get hO_a0
  have hrn : 0 ≤ n.toInt ∧ n.toInt ≤ 120 := jok_rngI hK_a0 rfl hF_n
  have hF_gr := hr_gr.get hO_a0
  obtain ⟨w_gr, hFq_gr, b_gr, hbq_gr, hb_gr⟩ := hK_a0.2 1 (.inr (some (.inl 14))) rfl
  cases hF_gr.symm.trans (hFq_gr.trans (congrArg some hbq_gr))
  have hF_mn := hr_mn.get hO_a0
  obtain ⟨w_mn, hFq_mn, b_mn, hbq_mn, hb_mn⟩ := hK_a0.2 2 (.inr (some (.inl 15))) rfl
  cases hF_mn.symm.trans (hFq_mn.trans (congrArg some hbq_mn))
  have hF_sp := hr_sp.get hO_a0
  obtain ⟨w_sp, hFq_sp, b_sp, hbq_sp, hb_sp⟩ := hK_a0.2 3 (.inr (some (.inl 16))) rfl
  cases hF_sp.symm.trans (hFq_sp.trans (congrArg some hbq_sp))
  have hF_rw := hr_rw.get hO_a0
  obtain ⟨w_rw, hFq_rw, b_rw, hbq_rw, hb_rw⟩ := hK_a0.2 4 (.inr (some (.inl 17))) rfl
  cases hF_rw.symm.trans (hFq_rw.trans (congrArg some hbq_rw))
  have hF_px := hr_px.get hO_a0
  obtain ⟨w_px, hFq_px, b_px, hbq_px, hb_px⟩ := hK_a0.2 6 (.inr (some (.inl 18))) rfl
  cases hF_px.symm.trans (hFq_px.trans (congrArg some hbq_px))
  have hF_py := hr_py.get hO_a0
  obtain ⟨w_py, hFq_py, b_py, hbq_py, hb_py⟩ := hK_a0.2 7 (.inr (some (.inl 19))) rfl
  cases hF_py.symm.trans (hFq_py.trans (congrArg some hbq_py))
  have hF_pz := hr_pz.get hO_a0
  obtain ⟨w_pz, hFq_pz, b_pz, hbq_pz, hb_pz⟩ := hK_a0.2 8 (.inr (some (.inl 20))) rfl
  cases hF_pz.symm.trans (hFq_pz.trans (congrArg some hbq_pz))
  obtain ⟨hN_GA, hv_GA⟩ := WT_rngI (r := (0, 3)) hW id rfl ha_GA
  clear hN_GA
  obtain ⟨hN_MN, hv_MN⟩ := WT_rngI (r := (0, 60)) hW id rfl ha_MN
  clear hN_MN
  obtain ⟨hN_SP, hv_SP⟩ := WT_rngI (r := ((-2147483648), 2147483647)) hW id rfl ha_SP
  clear hN_SP
  obtain ⟨hN_RW, hv_RW⟩ := WT_rngI (r := ((-2147483648), 2147483647)) hW id rfl ha_RW
  clear hN_RW
  obtain ⟨hN_PX, hv_PX⟩ := WT_rngI (r := ((-2147483648), 2147483647)) hW id rfl ha_PX
  clear hN_PX
  obtain ⟨hN_PY, hv_PY⟩ := WT_rngI (r := ((-2147483648), 2147483647)) hW id rfl ha_PY
  clear hN_PY
  obtain ⟨hN_PZ, hv_PZ⟩ := WT_rngI (r := ((-2147483648), 2147483647)) hW id rfl ha_PZ
  clear hN_PZ
  refine J_aload_n dX7_becomes_0 rfl ?_
  refine J_aload_n dX7_becomes_1 rfl ?_
  refine J_get jf_X7_7 dX7_becomes_2 hO_a0 hF_gr ?_
  refine J_iload_n dX7_becomes_5 rfl ?_
  refine Jz_iald (r := (0, 3)) jEq.rf dX7_becomes_6 ha_GA rfl hv_GA (by omega) (by omega) (fun y6 hf6 hl6 hh6 => ?_)
  dsimp only at hl6 hh6
  refine Jw_callV1 (q9 := (RX7, TX7, 34)) moX7_goes jw_ml_X7_122 jw_im_X7_goes jw_se_X7_goes ha0 rfl rfl dX7_becomes_7 (w_X7_goes_z (d - 1) _ a0 y6 n rw px py pz RW PX PY PZ (by omega) hW  ha0 ⟨_, hO_a0, hF_n⟩ ⟨_, hO_a0, hF_rw⟩ ⟨_, hO_a0, hF_px⟩ ⟨_, hO_a0, hF_py⟩ ⟨_, hO_a0, hF_pz⟩ ha_RW ha_PX ha_PY ha_PZ (by omega) (by omega)) (by omega) (Nat.zero_le _) (Nat.zero_le _) (Nat.le_of_ble_eq_true rfl) (fun r7 V7 h7 => ?_)
  obtain ⟨h7, hX7_0⟩ := h7
  obtain ⟨hW, hx7, hr7⟩ := h7
  have he := he.trans (hx7.sub (jsub_of rfl))
  have ha0 := ha0.mono hx7.1
  have hb_gr := hb_gr.mono hx7.1
  have hb_mn := hb_mn.mono hx7.1
  have hb_sp := hb_sp.mono hx7.1
  have hb_rw := hb_rw.mono hx7.1
  have hb_px := hb_px.mono hx7.1
  have hb_py := hb_py.mono hx7.1
  have hb_pz := hb_pz.mono hx7.1
  have hO_a0 := hx7.2 _ _ hO_a0 (jnot_of rfl)
  have hK_a0 := hK_a0.mono hx7.1
  have ha_GA := hx7.2 _ _ ha_GA (jnot_of rfl)
  have ha_MN := hx7.2 _ _ ha_MN (jnot_of rfl)
  have ha_SP := hx7.2 _ _ ha_SP (jnot_of rfl)
  have ha_RW := hx7.2 _ _ ha_RW (jnot_of rfl)
  obtain ⟨y7, rfl, hl7, hh7, hP7_0⟩ := hr7
  rw [← hf6] at hP7_0
  refine Jz_if_ne (tgt := 16) jEq.rf dX7_becomes_10 (by decide) (fun c10 => ?_) (fun c10 => ?_)
  · exact False.elim (hP7_0.elim (fun q => hp2 q.2) (fun q => c10 q.1))
  · refine Jz_bipush (-3) dX7_becomes_13 (by decide) (fun y13 he13 => ?_)
    exact J_ret (r := some (.int _)) dX7_becomes_15 ⟨rfl, _, rfl, rfl⟩ (⟨hW, he, ⟨_, rfl, (j_rng _).1, (j_rng _).2, (by (try simp only [he13.eq, true_and, and_true]) <;> omega)⟩⟩)
set_option maxRecDepth 100000 in
set_option maxHeartbeats 8000000 in
theorem w_X7_becomes_full {tS : jTS} (d : Nat) (V0 : jH) (a0 : Nat) (x1 : Int32) (n : Int32) (gr : Nat) (mn : Nat) (sp : Nat) (rw : Nat) (px : Nat) (py : Nat) (pz : Nat) (GA : Nat → Int32) (MN : Nat → Int32) (SP : Nat → Int32) (RW : Nat → Int32) (PX : Nat → Int32) (PY : Nat → Int32) (PZ : Nat → Int32) (hd : 2 ≤ d) (hW : WT V0) (ha0 : jis V0 (.inr 5) a0) (hf_n : jfI V0 a0 5 5 n) (hr_gr : jfR V0 a0 5 1 gr) (hr_mn : jfR V0 a0 5 2 mn) (hr_sp : jfR V0 a0 5 3 sp) (hr_rw : jfR V0 a0 5 4 rw) (hr_px : jfR V0 a0 5 6 px) (hr_py : jfR V0 a0 5 7 py) (hr_pz : jfR V0 a0 5 8 pz) (ha_GA : V0 gr = some (.inl (14, 16, .inl GA))) (ha_MN : V0 mn = some (.inl (15, 16, .inl MN))) (ha_SP : V0 sp = some (.inl (16, 960, .inl SP))) (ha_RW : V0 rw = some (.inl (17, 120, .inl RW))) (ha_PX : V0 px = some (.inl (18, 121, .inl PX))) (ha_PY : V0 py = some (.inl (19, 121, .inl PY))) (ha_PZ : V0 pz = some (.inl (20, 121, .inl PZ))) (hp0 : 0 ≤ x1.toInt) (hp1 : x1.toInt ≤ 15) (hp2 : jav (GA x1.toInt.toNat).toInt (fun q => (RW q).toInt) n.toInt.toNat) (hp3 : 60 < n.toInt) : jTot tS mX7_becomes d [.ref a0, .int x1] V0 0 0 (jPost [.inl 18, .inl 19, .inl 20] V0 (fun r _ => ∃ y : Int32, r = some (.int y) ∧ ((-2147483648) ≤ y.toInt) ∧ (y.toInt ≤ 2147483647) ∧ (y.toInt = -4))) := by
  refine jTot.of_J [some (.ref a0), some (.int x1)] moX7_becomes (Nat.le_of_ble_eq_true rfl) rfl ?_
  have hrx1 := j_rng x1
  have he : jeff [.inl 18, .inl 19, .inl 20] V0 V0 := jeff.refl _ _
  obtain ⟨fs_a0, hO_a0, hK_a0⟩ := WT_obj hW id ha0
  have hF_n := hf_n.get hO_a0
  have hrn : 0 ≤ n.toInt ∧ n.toInt ≤ 120 := jok_rngI hK_a0 rfl hF_n
  have hF_gr := hr_gr.get hO_a0
  obtain ⟨w_gr, hFq_gr, b_gr, hbq_gr, hb_gr⟩ := hK_a0.2 1 (.inr (some (.inl 14))) rfl
  cases hF_gr.symm.trans (hFq_gr.trans (congrArg some hbq_gr))
  have hF_mn := hr_mn.get hO_a0
  obtain ⟨w_mn, hFq_mn, b_mn, hbq_mn, hb_mn⟩ := hK_a0.2 2 (.inr (some (.inl 15))) rfl
  cases hF_mn.symm.trans (hFq_mn.trans (congrArg some hbq_mn))
  have hF_sp := hr_sp.get hO_a0
  obtain ⟨w_sp, hFq_sp, b_sp, hbq_sp, hb_sp⟩ := hK_a0.2 3 (.inr (some (.inl 16))) rfl
  cases hF_sp.symm.trans (hFq_sp.trans (congrArg some hbq_sp))
  have hF_rw := hr_rw.get hO_a0
  obtain ⟨w_rw, hFq_rw, b_rw, hbq_rw, hb_rw⟩ := hK_a0.2 4 (.inr (some (.inl 17))) rfl
  cases hF_rw.symm.trans (hFq_rw.trans (congrArg some hbq_rw))
  have hF_px := hr_px.get hO_a0
  obtain ⟨w_px, hFq_px, b_px, hbq_px, hb_px⟩ := hK_a0.2 6 (.inr (some (.inl 18))) rfl
  cases hF_px.symm.trans (hFq_px.trans (congrArg some hbq_px))
  have hF_py := hr_py.get hO_a0
  obtain ⟨w_py, hFq_py, b_py, hbq_py, hb_py⟩ := hK_a0.2 7 (.inr (some (.inl 19))) rfl
  cases hF_py.symm.trans (hFq_py.trans (congrArg some hbq_py))
  have hF_pz := hr_pz.get hO_a0
  obtain ⟨w_pz, hFq_pz, b_pz, hbq_pz, hb_pz⟩ := hK_a0.2 8 (.inr (some (.inl 20))) rfl
  cases hF_pz.symm.trans (hFq_pz.trans (congrArg some hbq_pz))
  obtain ⟨hN_GA, hv_GA⟩ := WT_rngI (r := (0, 3)) hW id rfl ha_GA
  clear hN_GA
  obtain ⟨hN_MN, hv_MN⟩ := WT_rngI (r := (0, 60)) hW id rfl ha_MN
  clear hN_MN
  obtain ⟨hN_SP, hv_SP⟩ := WT_rngI (r := ((-2147483648), 2147483647)) hW id rfl ha_SP
  clear hN_SP
  obtain ⟨hN_RW, hv_RW⟩ := WT_rngI (r := ((-2147483648), 2147483647)) hW id rfl ha_RW
  clear hN_RW
  obtain ⟨hN_PX, hv_PX⟩ := WT_rngI (r := ((-2147483648), 2147483647)) hW id rfl ha_PX
  clear hN_PX
  obtain ⟨hN_PY, hv_PY⟩ := WT_rngI (r := ((-2147483648), 2147483647)) hW id rfl ha_PY
  clear hN_PY
  obtain ⟨hN_PZ, hv_PZ⟩ := WT_rngI (r := ((-2147483648), 2147483647)) hW id rfl ha_PZ
  clear hN_PZ
  refine J_aload_n dX7_becomes_0 rfl ?_
  refine J_aload_n dX7_becomes_1 rfl ?_
  refine J_get jf_X7_7 dX7_becomes_2 hO_a0 hF_gr ?_
  refine J_iload_n dX7_becomes_5 rfl ?_
  refine Jz_iald (r := (0, 3)) jEq.rf dX7_becomes_6 ha_GA rfl hv_GA (by omega) (by omega) (fun y6 hf6 hl6 hh6 => ?_)
  dsimp only at hl6 hh6
  refine Jw_callV1 (q9 := (RX7, TX7, 34)) moX7_goes jw_ml_X7_122 jw_im_X7_goes jw_se_X7_goes ha0 rfl rfl dX7_becomes_7 (w_X7_goes_z (d - 1) _ a0 y6 n rw px py pz RW PX PY PZ (by omega) hW  ha0 ⟨_, hO_a0, hF_n⟩ ⟨_, hO_a0, hF_rw⟩ ⟨_, hO_a0, hF_px⟩ ⟨_, hO_a0, hF_py⟩ ⟨_, hO_a0, hF_pz⟩ ha_RW ha_PX ha_PY ha_PZ (by omega) (by omega)) (by omega) (Nat.zero_le _) (Nat.zero_le _) (Nat.le_of_ble_eq_true rfl) (fun r7 V7 h7 => ?_)
  obtain ⟨h7, hX7_0⟩ := h7
  obtain ⟨hW, hx7, hr7⟩ := h7
  have he := he.trans (hx7.sub (jsub_of rfl))
  have ha0 := ha0.mono hx7.1
  have hb_gr := hb_gr.mono hx7.1
  have hb_mn := hb_mn.mono hx7.1
  have hb_sp := hb_sp.mono hx7.1
  have hb_rw := hb_rw.mono hx7.1
  have hb_px := hb_px.mono hx7.1
  have hb_py := hb_py.mono hx7.1
  have hb_pz := hb_pz.mono hx7.1
  have hO_a0 := hx7.2 _ _ hO_a0 (jnot_of rfl)
  have hK_a0 := hK_a0.mono hx7.1
  have ha_GA := hx7.2 _ _ ha_GA (jnot_of rfl)
  have ha_MN := hx7.2 _ _ ha_MN (jnot_of rfl)
  have ha_SP := hx7.2 _ _ ha_SP (jnot_of rfl)
  have ha_RW := hx7.2 _ _ ha_RW (jnot_of rfl)
  obtain ⟨y7, rfl, hl7, hh7, hP7_0⟩ := hr7
  rw [← hf6] at hP7_0
  refine Jz_if_ne (tgt := 16) jEq.rf dX7_becomes_10 (by decide) (fun c10 => ?_) (fun c10 => ?_)
  · refine J_aload_n dX7_becomes_16 rfl ?_
    refine J_get jf_X7_109 dX7_becomes_17 hO_a0 hF_n ?_
    refine Jz_bipush 60 dX7_becomes_20 (by decide) (fun y20 he20 => ?_)
    refine Jz_icmp_le (tgt := 28) jEq.rf he20 dX7_becomes_22 (by decide) (fun c22 => ?_) (fun c22 => ?_)
    · exact False.elim (by omega)
    · refine Jz_bipush (-4) dX7_becomes_25 (by decide) (fun y25 he25 => ?_)
      exact J_ret (r := some (.int _)) dX7_becomes_27 ⟨rfl, _, rfl, rfl⟩ (⟨hW, he, ⟨_, rfl, (j_rng _).1, (j_rng _).2, (by (try simp only [he25.eq, true_and, and_true]) <;> omega)⟩⟩)
  · exact False.elim (hP7_0.elim (fun q => by omega) (fun q => q.2 hp2))
set_option maxRecDepth 100000 in
set_option maxHeartbeats 8000000 in
theorem w_X7_becomes_ok {tS : jTS} (d : Nat) (V0 : jH) (a0 : Nat) (x1 : Int32) (n : Int32) (gr : Nat) (mn : Nat) (sp : Nat) (rw : Nat) (px : Nat) (py : Nat) (pz : Nat) (GA : Nat → Int32) (MN : Nat → Int32) (SP : Nat → Int32) (RW : Nat → Int32) (PX : Nat → Int32) (PY : Nat → Int32) (PZ : Nat → Int32) (hd : 2 ≤ d) (hW : WT V0) (ha0 : jis V0 (.inr 5) a0) (hf_n : jfI V0 a0 5 5 n) (hr_gr : jfR V0 a0 5 1 gr) (hr_mn : jfR V0 a0 5 2 mn) (hr_sp : jfR V0 a0 5 3 sp) (hr_rw : jfR V0 a0 5 4 rw) (hr_px : jfR V0 a0 5 6 px) (hr_py : jfR V0 a0 5 7 py) (hr_pz : jfR V0 a0 5 8 pz) (ha_GA : V0 gr = some (.inl (14, 16, .inl GA))) (ha_MN : V0 mn = some (.inl (15, 16, .inl MN))) (ha_SP : V0 sp = some (.inl (16, 960, .inl SP))) (ha_RW : V0 rw = some (.inl (17, 120, .inl RW))) (ha_PX : V0 px = some (.inl (18, 121, .inl PX))) (ha_PY : V0 py = some (.inl (19, 121, .inl PY))) (ha_PZ : V0 pz = some (.inl (20, 121, .inl PZ))) (hp0 : 0 ≤ x1.toInt) (hp1 : x1.toInt ≤ 15) (hp2 : jav (GA x1.toInt.toNat).toInt (fun q => (RW q).toInt) n.toInt.toNat) (hp3 : n.toInt ≤ 60) : jTot tS mX7_becomes d [.ref a0, .int x1] V0 0 0 (fun r V => (jPost [.inl 18, .inl 19, .inl 20, .inl 15, .inl 16] V0 (fun r _ => ∃ y : Int32, r = some (.int y) ∧ ((-2147483648) ≤ y.toInt) ∧ (y.toInt ≤ 2147483647) ∧ (y.toInt = n.toInt))) r V ∧ (∃ M2 : Nat → Int32, V mn = some (.inl (15, 16, .inl M2)) ∧ M2 x1.toInt.toNat = n ∧ ∀ j : Nat, j ≠ x1.toInt.toNat → M2 j = MN j) ∧ (∃ S2 : Nat → Int32, V sp = some (.inl (16, 960, .inl S2)) ∧ (∀ j : Nat, (j : Int) < n.toInt → S2 (60 * x1.toInt.toNat + j) = RW j) ∧ ∀ q : Nat, q < 60 * x1.toInt.toNat ∨ 60 * x1.toInt.toNat + 60 ≤ q → S2 q = SP q)) := by
  refine jTot.of_J [some (.ref a0), some (.int x1)] moX7_becomes (Nat.le_of_ble_eq_true rfl) rfl ?_
  have hrx1 := j_rng x1
  have he : jeff [.inl 18, .inl 19, .inl 20, .inl 15, .inl 16] V0 V0 := jeff.refl _ _
  obtain ⟨fs_a0, hO_a0, hK_a0⟩ := WT_obj hW id ha0
  have hF_n := hf_n.get hO_a0
  have hrn : 0 ≤ n.toInt ∧ n.toInt ≤ 120 := jok_rngI hK_a0 rfl hF_n
  have hF_gr := hr_gr.get hO_a0
  obtain ⟨w_gr, hFq_gr, b_gr, hbq_gr, hb_gr⟩ := hK_a0.2 1 (.inr (some (.inl 14))) rfl
  cases hF_gr.symm.trans (hFq_gr.trans (congrArg some hbq_gr))
  have hF_mn := hr_mn.get hO_a0
  obtain ⟨w_mn, hFq_mn, b_mn, hbq_mn, hb_mn⟩ := hK_a0.2 2 (.inr (some (.inl 15))) rfl
  cases hF_mn.symm.trans (hFq_mn.trans (congrArg some hbq_mn))
  have hF_sp := hr_sp.get hO_a0
  obtain ⟨w_sp, hFq_sp, b_sp, hbq_sp, hb_sp⟩ := hK_a0.2 3 (.inr (some (.inl 16))) rfl
  cases hF_sp.symm.trans (hFq_sp.trans (congrArg some hbq_sp))
  have hF_rw := hr_rw.get hO_a0
  obtain ⟨w_rw, hFq_rw, b_rw, hbq_rw, hb_rw⟩ := hK_a0.2 4 (.inr (some (.inl 17))) rfl
  cases hF_rw.symm.trans (hFq_rw.trans (congrArg some hbq_rw))
  have hF_px := hr_px.get hO_a0
  obtain ⟨w_px, hFq_px, b_px, hbq_px, hb_px⟩ := hK_a0.2 6 (.inr (some (.inl 18))) rfl
  cases hF_px.symm.trans (hFq_px.trans (congrArg some hbq_px))
  have hF_py := hr_py.get hO_a0
  obtain ⟨w_py, hFq_py, b_py, hbq_py, hb_py⟩ := hK_a0.2 7 (.inr (some (.inl 19))) rfl
  cases hF_py.symm.trans (hFq_py.trans (congrArg some hbq_py))
  have hF_pz := hr_pz.get hO_a0
  obtain ⟨w_pz, hFq_pz, b_pz, hbq_pz, hb_pz⟩ := hK_a0.2 8 (.inr (some (.inl 20))) rfl
  cases hF_pz.symm.trans (hFq_pz.trans (congrArg some hbq_pz))
  obtain ⟨hN_GA, hv_GA⟩ := WT_rngI (r := (0, 3)) hW id rfl ha_GA
  clear hN_GA
  obtain ⟨hN_MN, hv_MN⟩ := WT_rngI (r := (0, 60)) hW id rfl ha_MN
  clear hN_MN
  obtain ⟨hN_SP, hv_SP⟩ := WT_rngI (r := ((-2147483648), 2147483647)) hW id rfl ha_SP
  clear hN_SP
  obtain ⟨hN_RW, hv_RW⟩ := WT_rngI (r := ((-2147483648), 2147483647)) hW id rfl ha_RW
  clear hN_RW
  obtain ⟨hN_PX, hv_PX⟩ := WT_rngI (r := ((-2147483648), 2147483647)) hW id rfl ha_PX
  clear hN_PX
  obtain ⟨hN_PY, hv_PY⟩ := WT_rngI (r := ((-2147483648), 2147483647)) hW id rfl ha_PY
  clear hN_PY
  obtain ⟨hN_PZ, hv_PZ⟩ := WT_rngI (r := ((-2147483648), 2147483647)) hW id rfl ha_PZ
  clear hN_PZ
  refine J_aload_n dX7_becomes_0 rfl ?_
  refine J_aload_n dX7_becomes_1 rfl ?_
  refine J_get jf_X7_7 dX7_becomes_2 hO_a0 hF_gr ?_
  refine J_iload_n dX7_becomes_5 rfl ?_
  refine Jz_iald (r := (0, 3)) jEq.rf dX7_becomes_6 ha_GA rfl hv_GA (by omega) (by omega) (fun y6 hf6 hl6 hh6 => ?_)
  dsimp only at hl6 hh6
  refine Jw_callV1 (q9 := (RX7, TX7, 34)) moX7_goes jw_ml_X7_122 jw_im_X7_goes jw_se_X7_goes ha0 rfl rfl dX7_becomes_7 (w_X7_goes_z (d - 1) _ a0 y6 n rw px py pz RW PX PY PZ (by omega) hW  ha0 ⟨_, hO_a0, hF_n⟩ ⟨_, hO_a0, hF_rw⟩ ⟨_, hO_a0, hF_px⟩ ⟨_, hO_a0, hF_py⟩ ⟨_, hO_a0, hF_pz⟩ ha_RW ha_PX ha_PY ha_PZ (by omega) (by omega)) (by omega) (Nat.zero_le _) (Nat.zero_le _) (Nat.le_of_ble_eq_true rfl) (fun r7 V7 h7 => ?_)
  obtain ⟨h7, hX7_0⟩ := h7
  obtain ⟨hW, hx7, hr7⟩ := h7
  have he := he.trans (hx7.sub (jsub_of rfl))
  have ha0 := ha0.mono hx7.1
  have hb_gr := hb_gr.mono hx7.1
  have hb_mn := hb_mn.mono hx7.1
  have hb_sp := hb_sp.mono hx7.1
  have hb_rw := hb_rw.mono hx7.1
  have hb_px := hb_px.mono hx7.1
  have hb_py := hb_py.mono hx7.1
  have hb_pz := hb_pz.mono hx7.1
  have hO_a0 := hx7.2 _ _ hO_a0 (jnot_of rfl)
  have hK_a0 := hK_a0.mono hx7.1
  have ha_GA := hx7.2 _ _ ha_GA (jnot_of rfl)
  have ha_MN := hx7.2 _ _ ha_MN (jnot_of rfl)
  have ha_SP := hx7.2 _ _ ha_SP (jnot_of rfl)
  have ha_RW := hx7.2 _ _ ha_RW (jnot_of rfl)
  obtain ⟨y7, rfl, hl7, hh7, hP7_0⟩ := hr7
  rw [← hf6] at hP7_0
  refine Jz_if_ne (tgt := 16) jEq.rf dX7_becomes_10 (by decide) (fun c10 => ?_) (fun c10 => ?_)
  · refine J_aload_n dX7_becomes_16 rfl ?_
    refine J_get jf_X7_109 dX7_becomes_17 hO_a0 hF_n ?_
    refine Jz_bipush 60 dX7_becomes_20 (by decide) (fun y20 he20 => ?_)
    refine Jz_icmp_le (tgt := 28) jEq.rf he20 dX7_becomes_22 (by decide) (fun c22 => ?_) (fun c22 => ?_)
    · refine J_aload_n dX7_becomes_28 rfl ?_
      refine J_iload_n dX7_becomes_29 rfl ?_
      refine Jw_callV1 (q9 := (RX7, TX7, 34)) moX7_keeps jw_ml_X7_126 jw_im_X7_keeps jw_se_X7_keeps ha0 rfl rfl dX7_becomes_30 (w_X7_keeps_z (d - 1) _ a0 x1 n mn sp rw MN SP RW (by omega) hW  ha0 ⟨_, hO_a0, hF_n⟩ ⟨_, hO_a0, hF_mn⟩ ⟨_, hO_a0, hF_sp⟩ ⟨_, hO_a0, hF_rw⟩ ha_MN ha_SP ha_RW (by omega) (by omega) (by omega)) (by omega) (Nat.zero_le _) (Nat.zero_le _) (Nat.le_of_ble_eq_true rfl) (fun r30 V30 h30 => ?_)
      obtain ⟨h30, hX30_0, hX30_1⟩ := h30
      obtain ⟨hW, hx30, hr30⟩ := h30
      have he := he.trans (hx30.sub (jsub_of rfl))
      have ha0 := ha0.mono hx30.1
      have hb_gr := hb_gr.mono hx30.1
      have hb_mn := hb_mn.mono hx30.1
      have hb_sp := hb_sp.mono hx30.1
      have hb_rw := hb_rw.mono hx30.1
      have hb_px := hb_px.mono hx30.1
      have hb_py := hb_py.mono hx30.1
      have hb_pz := hb_pz.mono hx30.1
      have hO_a0 := hx30.2 _ _ hO_a0 (jnot_of rfl)
      have hK_a0 := hK_a0.mono hx30.1
      have ha_GA := hx30.2 _ _ ha_GA (jnot_of rfl)
      have ha_RW := hx30.2 _ _ ha_RW (jnot_of rfl)
      cases hr30
      refine J_aload_n dX7_becomes_33 rfl ?_
      refine J_get jf_X7_109 dX7_becomes_34 hO_a0 hF_n ?_
      exact J_ret (r := some (.int _)) dX7_becomes_37 ⟨rfl, _, rfl, rfl⟩ (⟨⟨hW, he, ⟨_, rfl, (j_rng _).1, (j_rng _).2, (by omega)⟩⟩, hX30_0, hX30_1⟩)
    · exact False.elim (by omega)
  · exact False.elim (hP7_0.elim (fun q => by omega) (fun q => q.2 hp2))
set_option maxRecDepth 100000 in
set_option maxHeartbeats 8000000 in
theorem w_X7_step_bad {tS : jTS} (d : Nat) (V0 : jH) (a0 : Nat) (x1 : Int32) (x2 : Int32) (v0 : Int32) (gr : Nat) (mn : Nat) (sp : Nat) (rw : Nat) (px : Nat) (py : Nat) (pz : Nat) (GA : Nat → Int32) (MN : Nat → Int32) (SP : Nat → Int32) (RW : Nat → Int32) (PX : Nat → Int32) (PY : Nat → Int32) (PZ : Nat → Int32) (hd : 3 ≤ d) (hW : WT V0) (ha0 : jis V0 (.inr 5) a0) (hf_v0 : jfI V0 a0 5 0 v0) (hr_gr : jfR V0 a0 5 1 gr) (hr_mn : jfR V0 a0 5 2 mn) (hr_sp : jfR V0 a0 5 3 sp) (hr_rw : jfR V0 a0 5 4 rw) (hr_px : jfR V0 a0 5 6 px) (hr_py : jfR V0 a0 5 7 py) (hr_pz : jfR V0 a0 5 8 pz) (ha_GA : V0 gr = some (.inl (14, 16, .inl GA))) (ha_MN : V0 mn = some (.inl (15, 16, .inl MN))) (ha_SP : V0 sp = some (.inl (16, 960, .inl SP))) (ha_RW : V0 rw = some (.inl (17, 120, .inl RW))) (ha_PX : V0 px = some (.inl (18, 121, .inl PX))) (ha_PY : V0 py = some (.inl (19, 121, .inl PY))) (ha_PZ : V0 pz = some (.inl (20, 121, .inl PZ))) (hp0 : ¬ (0 ≤ x1.toInt ∧ x1.toInt < v0.toInt ∧ 0 ≤ x2.toInt ∧ x2.toInt < jdir (GA x1.toInt.toNat).toInt)) : jTot tS mX7_step d [.ref a0, .int x1, .int x2] V0 0 0 (fun r V => (fun r _ => ∃ y : Int32, r = some (.int y) ∧ ((-2147483648) ≤ y.toInt) ∧ (y.toInt ≤ 2147483647) ∧ (y.toInt = -2)) r V ∧ V = V0) := by
  refine jTot.of_J [some (.ref a0), some (.int x1), some (.int x2)] moX7_step (Nat.le_of_ble_eq_true rfl) rfl ?_
  have hrx1 := j_rng x1
  have hrx2 := j_rng x2
  have he : jeff [] V0 V0 := jeff.refl _ _
  obtain ⟨fs_a0, hO_a0, hK_a0⟩ := WT_obj hW id ha0
  have hF_v0 := hf_v0.get hO_a0
  have hrv0 : 0 ≤ v0.toInt ∧ v0.toInt ≤ 16 := jok_rngI hK_a0 rfl hF_v0
  have hF_gr := hr_gr.get hO_a0
  obtain ⟨w_gr, hFq_gr, b_gr, hbq_gr, hb_gr⟩ := hK_a0.2 1 (.inr (some (.inl 14))) rfl
  cases hF_gr.symm.trans (hFq_gr.trans (congrArg some hbq_gr))
  have hF_mn := hr_mn.get hO_a0
  obtain ⟨w_mn, hFq_mn, b_mn, hbq_mn, hb_mn⟩ := hK_a0.2 2 (.inr (some (.inl 15))) rfl
  cases hF_mn.symm.trans (hFq_mn.trans (congrArg some hbq_mn))
  have hF_sp := hr_sp.get hO_a0
  obtain ⟨w_sp, hFq_sp, b_sp, hbq_sp, hb_sp⟩ := hK_a0.2 3 (.inr (some (.inl 16))) rfl
  cases hF_sp.symm.trans (hFq_sp.trans (congrArg some hbq_sp))
  have hF_rw := hr_rw.get hO_a0
  obtain ⟨w_rw, hFq_rw, b_rw, hbq_rw, hb_rw⟩ := hK_a0.2 4 (.inr (some (.inl 17))) rfl
  cases hF_rw.symm.trans (hFq_rw.trans (congrArg some hbq_rw))
  have hF_px := hr_px.get hO_a0
  obtain ⟨w_px, hFq_px, b_px, hbq_px, hb_px⟩ := hK_a0.2 6 (.inr (some (.inl 18))) rfl
  cases hF_px.symm.trans (hFq_px.trans (congrArg some hbq_px))
  have hF_py := hr_py.get hO_a0
  obtain ⟨w_py, hFq_py, b_py, hbq_py, hb_py⟩ := hK_a0.2 7 (.inr (some (.inl 19))) rfl
  cases hF_py.symm.trans (hFq_py.trans (congrArg some hbq_py))
  have hF_pz := hr_pz.get hO_a0
  obtain ⟨w_pz, hFq_pz, b_pz, hbq_pz, hb_pz⟩ := hK_a0.2 8 (.inr (some (.inl 20))) rfl
  cases hF_pz.symm.trans (hFq_pz.trans (congrArg some hbq_pz))
  obtain ⟨hN_GA, hv_GA⟩ := WT_rngI (r := (0, 3)) hW id rfl ha_GA
  clear hN_GA
  obtain ⟨hN_MN, hv_MN⟩ := WT_rngI (r := (0, 60)) hW id rfl ha_MN
  clear hN_MN
  obtain ⟨hN_SP, hv_SP⟩ := WT_rngI (r := ((-2147483648), 2147483647)) hW id rfl ha_SP
  clear hN_SP
  obtain ⟨hN_RW, hv_RW⟩ := WT_rngI (r := ((-2147483648), 2147483647)) hW id rfl ha_RW
  clear hN_RW
  obtain ⟨hN_PX, hv_PX⟩ := WT_rngI (r := ((-2147483648), 2147483647)) hW id rfl ha_PX
  clear hN_PX
  obtain ⟨hN_PY, hv_PY⟩ := WT_rngI (r := ((-2147483648), 2147483647)) hW id rfl ha_PY
  clear hN_PY
  obtain ⟨hN_PZ, hv_PZ⟩ := WT_rngI (r := ((-2147483648), 2147483647)) hW id rfl ha_PZ
  clear hN_PZ
  refine J_aload_n dX7_step_0 rfl ?_
  refine J_iload_n dX7_step_1 rfl ?_
  refine Jw_callV1 (q9 := (RX7, TX7, 34)) moX7_isWalk jw_ml_X7_130 jw_im_X7_isWalk jw_se_X7_isWalk ha0 rfl rfl dX7_step_2 (w_X7_isWalk_z (d - 1) _ a0 x1 v0 (by omega) hW  ha0 ⟨_, hO_a0, hF_v0⟩) (by omega) (Nat.zero_le _) (Nat.zero_le _) (Nat.le_of_ble_eq_true rfl) (fun r2 V2 h2 => ?_)
  obtain ⟨⟨y2, rfl, hl2, hh2, hP2_0⟩, hE2⟩ := h2
  have hE2 := hE2.symm
  subst hE2
  refine Jz_if_eq (tgt := 27) jEq.rf dX7_step_5 (by decide) (fun c5 => ?_) (fun c5 => ?_)
  · refine Jz_bipush (-2) dX7_step_27 (by decide) (fun y27 he27 => ?_)
    exact J_ret (r := some (.int _)) dX7_step_29 ⟨rfl, _, rfl, rfl⟩ (⟨⟨_, rfl, (j_rng _).1, (j_rng _).2, (by (try simp only [he27.eq, true_and, and_true]) <;> omega)⟩, rfl⟩)
  · refine J_iload_n dX7_step_8 rfl ?_
    refine Jz_iconst 0 dX7_step_9 (by decide) (fun y9 he9 => ?_)
    refine J_aload_n dX7_step_10 rfl ?_
    refine J_get jf_X7_7 dX7_step_11 hO_a0 hF_gr ?_
    refine J_iload_n dX7_step_14 rfl ?_
    refine Jz_iald (r := (0, 3)) jEq.rf dX7_step_15 ha_GA rfl hv_GA (by omega) (by omega) (fun y15 hf15 hl15 hh15 => ?_)
    dsimp only at hl15 hh15
    have hq15 : (GA x1.toInt.toNat).toInt = y15.toInt := by rw [hf15]
    rw [hq15] at hp0
    refine J_callS1 moX7_directions jw_ml_X7_133 jw_st_X7_directions dX7_step_16 (w_X7_directions (d - 1) _ y15 (by omega)   ) (by omega) (Nat.zero_le _) (Nat.zero_le _) (Nat.le_of_ble_eq_true rfl) (fun r16 V16 h16 => ?_)
    obtain ⟨⟨y16, rfl, hl16, hh16, hP16_0⟩, hE16⟩ := h16
    have hE16 := hE16.symm
    subst hE16
    have hz16 : jEq y16.toInt (jdir (y15.toInt)) := hP16_0
    simp only [hP16_0] at hl16 hh16
    clear hP16_0
    refine Jz_iconst 1 dX7_step_19 (by decide) (fun y19 he19 => ?_)
    refine Jz_isub hz16 he19 dX7_step_20 (by omega) (by omega) (fun y20 he20 => ?_)
    refine J_callS3 moX7_in jw_ml_X7_105 jw_st_X7_in dX7_step_21 (w_X7_in (d - 1) _ x2 y9 y20 (by omega)   ) (by omega) (Nat.zero_le _) (Nat.zero_le _) (Nat.le_of_ble_eq_true rfl) (fun r21 V21 h21 => ?_)
    obtain ⟨⟨y21, rfl, hl21, hh21, hI21_0, hI21_1⟩, hE21⟩ := h21
    have hE21 := hE21.symm
    subst hE21
    refine Jz_if_ne (tgt := 30) jEq.rf dX7_step_24 (by decide) (fun c24 => ?_) (fun c24 => ?_)
    · have q24_0 := hI21_0.of (by omega)
      try simp only [he9.eq, he20.eq] at q24_0
      exact False.elim (by omega)
    · have q24_1 := hI21_1.of (by omega)
      try simp only [he9.eq, he20.eq] at q24_1
      refine Jz_bipush (-2) dX7_step_27 (by decide) (fun y27 he27 => ?_)
      exact J_ret (r := some (.int _)) dX7_step_29 ⟨rfl, _, rfl, rfl⟩ (⟨⟨_, rfl, (j_rng _).1, (j_rng _).2, (by (try simp only [he27.eq, true_and, and_true]) <;> omega)⟩, rfl⟩)
set_option maxRecDepth 100000 in
set_option maxHeartbeats 8000000 in
theorem w_X7_step_no {tS : jTS} (d : Nat) (V0 : jH) (a0 : Nat) (x1 : Int32) (x2 : Int32) (v0 : Int32) (gr : Nat) (mn : Nat) (sp : Nat) (rw : Nat) (px : Nat) (py : Nat) (pz : Nat) (GA : Nat → Int32) (MN : Nat → Int32) (SP : Nat → Int32) (RW : Nat → Int32) (PX : Nat → Int32) (PY : Nat → Int32) (PZ : Nat → Int32) (hd : 3 ≤ d) (hW : WT V0) (ha0 : jis V0 (.inr 5) a0) (hf_v0 : jfI V0 a0 5 0 v0) (hr_gr : jfR V0 a0 5 1 gr) (hr_mn : jfR V0 a0 5 2 mn) (hr_sp : jfR V0 a0 5 3 sp) (hr_rw : jfR V0 a0 5 4 rw) (hr_px : jfR V0 a0 5 6 px) (hr_py : jfR V0 a0 5 7 py) (hr_pz : jfR V0 a0 5 8 pz) (ha_GA : V0 gr = some (.inl (14, 16, .inl GA))) (ha_MN : V0 mn = some (.inl (15, 16, .inl MN))) (ha_SP : V0 sp = some (.inl (16, 960, .inl SP))) (ha_RW : V0 rw = some (.inl (17, 120, .inl RW))) (ha_PX : V0 px = some (.inl (18, 121, .inl PX))) (ha_PY : V0 py = some (.inl (19, 121, .inl PY))) (ha_PZ : V0 pz = some (.inl (20, 121, .inl PZ))) (hp0 : 0 ≤ x1.toInt) (hp1 : x1.toInt < v0.toInt) (hp2 : 0 ≤ x2.toInt) (hp3 : x2.toInt < jdir (GA x1.toInt.toNat).toInt) (hp4 : ¬ jav (GA x1.toInt.toNat).toInt (jTs (fun q => (SP (60 * x1.toInt.toNat + q)).toInt) (MN x1.toInt.toNat).toInt.toNat x2.toInt) ((MN x1.toInt.toNat).toInt.toNat + 1)) : jTot tS mX7_step d [.ref a0, .int x1, .int x2] V0 0 0 (fun r V => (jPost [.inr 5, .inl 17, .inl 18, .inl 19, .inl 20] V0 (fun r _ => ∃ y : Int32, r = some (.int y) ∧ ((-2147483648) ≤ y.toInt) ∧ (y.toInt ≤ 2147483647) ∧ (y.toInt = -3))) r V ∧ jkc 5 [0, 23, 24] V0 V) := by
  refine jTot.of_J [some (.ref a0), some (.int x1), some (.int x2)] moX7_step (Nat.le_of_ble_eq_true rfl) rfl ?_
  have hrx1 := j_rng x1
  have hrx2 := j_rng x2
  have he : jeff [.inr 5, .inl 17, .inl 18, .inl 19, .inl 20] V0 V0 := jeff.refl _ _
  have hkp : jkc 5 [0, 23, 24] V0 V0 := jkc.rf
  obtain ⟨fs_a0, hO_a0, hK_a0⟩ := WT_obj hW id ha0
  have hF_v0 := hf_v0.get hO_a0
  have hrv0 : 0 ≤ v0.toInt ∧ v0.toInt ≤ 16 := jok_rngI hK_a0 rfl hF_v0
  have hF_gr := hr_gr.get hO_a0
  obtain ⟨w_gr, hFq_gr, b_gr, hbq_gr, hb_gr⟩ := hK_a0.2 1 (.inr (some (.inl 14))) rfl
  cases hF_gr.symm.trans (hFq_gr.trans (congrArg some hbq_gr))
  have hF_mn := hr_mn.get hO_a0
  obtain ⟨w_mn, hFq_mn, b_mn, hbq_mn, hb_mn⟩ := hK_a0.2 2 (.inr (some (.inl 15))) rfl
  cases hF_mn.symm.trans (hFq_mn.trans (congrArg some hbq_mn))
  have hF_sp := hr_sp.get hO_a0
  obtain ⟨w_sp, hFq_sp, b_sp, hbq_sp, hb_sp⟩ := hK_a0.2 3 (.inr (some (.inl 16))) rfl
  cases hF_sp.symm.trans (hFq_sp.trans (congrArg some hbq_sp))
  have hF_rw := hr_rw.get hO_a0
  obtain ⟨w_rw, hFq_rw, b_rw, hbq_rw, hb_rw⟩ := hK_a0.2 4 (.inr (some (.inl 17))) rfl
  cases hF_rw.symm.trans (hFq_rw.trans (congrArg some hbq_rw))
  have hF_px := hr_px.get hO_a0
  obtain ⟨w_px, hFq_px, b_px, hbq_px, hb_px⟩ := hK_a0.2 6 (.inr (some (.inl 18))) rfl
  cases hF_px.symm.trans (hFq_px.trans (congrArg some hbq_px))
  have hF_py := hr_py.get hO_a0
  obtain ⟨w_py, hFq_py, b_py, hbq_py, hb_py⟩ := hK_a0.2 7 (.inr (some (.inl 19))) rfl
  cases hF_py.symm.trans (hFq_py.trans (congrArg some hbq_py))
  have hF_pz := hr_pz.get hO_a0
  obtain ⟨w_pz, hFq_pz, b_pz, hbq_pz, hb_pz⟩ := hK_a0.2 8 (.inr (some (.inl 20))) rfl
  cases hF_pz.symm.trans (hFq_pz.trans (congrArg some hbq_pz))
  obtain ⟨hN_GA, hv_GA⟩ := WT_rngI (r := (0, 3)) hW id rfl ha_GA
  clear hN_GA
  obtain ⟨hN_MN, hv_MN⟩ := WT_rngI (r := (0, 60)) hW id rfl ha_MN
  clear hN_MN
  obtain ⟨hN_SP, hv_SP⟩ := WT_rngI (r := ((-2147483648), 2147483647)) hW id rfl ha_SP
  clear hN_SP
  obtain ⟨hN_RW, hv_RW⟩ := WT_rngI (r := ((-2147483648), 2147483647)) hW id rfl ha_RW
  clear hN_RW
  obtain ⟨hN_PX, hv_PX⟩ := WT_rngI (r := ((-2147483648), 2147483647)) hW id rfl ha_PX
  clear hN_PX
  obtain ⟨hN_PY, hv_PY⟩ := WT_rngI (r := ((-2147483648), 2147483647)) hW id rfl ha_PY
  clear hN_PY
  obtain ⟨hN_PZ, hv_PZ⟩ := WT_rngI (r := ((-2147483648), 2147483647)) hW id rfl ha_PZ
  clear hN_PZ
  refine J_aload_n dX7_step_0 rfl ?_
  refine J_iload_n dX7_step_1 rfl ?_
  refine Jw_callV1 (q9 := (RX7, TX7, 34)) moX7_isWalk jw_ml_X7_130 jw_im_X7_isWalk jw_se_X7_isWalk ha0 rfl rfl dX7_step_2 (w_X7_isWalk_z (d - 1) _ a0 x1 v0 (by omega) hW  ha0 ⟨_, hO_a0, hF_v0⟩) (by omega) (Nat.zero_le _) (Nat.zero_le _) (Nat.le_of_ble_eq_true rfl) (fun r2 V2 h2 => ?_)
  obtain ⟨⟨y2, rfl, hl2, hh2, hP2_0⟩, hE2⟩ := h2
  have hE2 := hE2.symm
  subst hE2
  refine Jz_if_eq (tgt := 27) jEq.rf dX7_step_5 (by decide) (fun c5 => ?_) (fun c5 => ?_)
  · exact False.elim (by omega)
  · refine J_iload_n dX7_step_8 rfl ?_
    refine Jz_iconst 0 dX7_step_9 (by decide) (fun y9 he9 => ?_)
    refine J_aload_n dX7_step_10 rfl ?_
    refine J_get jf_X7_7 dX7_step_11 hO_a0 hF_gr ?_
    refine J_iload_n dX7_step_14 rfl ?_
    refine Jz_iald (r := (0, 3)) jEq.rf dX7_step_15 ha_GA rfl hv_GA (by omega) (by omega) (fun y15 hf15 hl15 hh15 => ?_)
    dsimp only at hl15 hh15
    have hq15 : (GA x1.toInt.toNat).toInt = y15.toInt := by rw [hf15]
    have hp3b := hp3
    rw [hq15] at hp3b
    refine J_callS1 moX7_directions jw_ml_X7_133 jw_st_X7_directions dX7_step_16 (w_X7_directions (d - 1) _ y15 (by omega)   ) (by omega) (Nat.zero_le _) (Nat.zero_le _) (Nat.le_of_ble_eq_true rfl) (fun r16 V16 h16 => ?_)
    obtain ⟨⟨y16, rfl, hl16, hh16, hP16_0⟩, hE16⟩ := h16
    have hE16 := hE16.symm
    subst hE16
    have hz16 : jEq y16.toInt (jdir (y15.toInt)) := hP16_0
    simp only [hP16_0] at hl16 hh16
    clear hP16_0
    refine Jz_iconst 1 dX7_step_19 (by decide) (fun y19 he19 => ?_)
    refine Jz_isub hz16 he19 dX7_step_20 (by omega) (by omega) (fun y20 he20 => ?_)
    refine J_callS3 moX7_in jw_ml_X7_105 jw_st_X7_in dX7_step_21 (w_X7_in (d - 1) _ x2 y9 y20 (by omega)   ) (by omega) (Nat.zero_le _) (Nat.zero_le _) (Nat.le_of_ble_eq_true rfl) (fun r21 V21 h21 => ?_)
    obtain ⟨⟨y21, rfl, hl21, hh21, hI21_0, hI21_1⟩, hE21⟩ := h21
    have hE21 := hE21.symm
    subst hE21
    refine Jz_if_ne (tgt := 30) jEq.rf dX7_step_24 (by decide) (fun c24 => ?_) (fun c24 => ?_)
    · have q24_0 := hI21_0.of (by omega)
      try simp only [he9.eq, he20.eq] at q24_0
      refine J_aload_n dX7_step_30 rfl ?_
      refine J_iload_n dX7_step_31 rfl ?_
      have hmr := hv_MN x1.toInt.toNat (by omega)
      dsimp only at hmr
      refine Jw_callV1 (q9 := (RX7, TX7, 34)) moX7_brings jw_ml_X7_137 jw_im_X7_brings jw_se_X7_brings ha0 rfl rfl dX7_step_32 (w_X7_brings_z (d - 1) _ a0 x1 mn sp rw MN SP RW (by omega) hW  ha0 ⟨_, hO_a0, hF_mn⟩ ⟨_, hO_a0, hF_sp⟩ ⟨_, hO_a0, hF_rw⟩ ha_MN ha_SP ha_RW (by omega) (by omega)) (by omega) (Nat.zero_le _) (Nat.zero_le _) (Nat.le_of_ble_eq_true rfl) (fun r32 V32 h32 => ?_)
      obtain ⟨h32, hX32_0, hX32_1, ⟨fv32_0, hfv32_0, hfp32_0⟩⟩ := h32
      obtain ⟨hW, hx32, hr32⟩ := h32
      have he := he.trans (hx32.sub (jsub_of rfl))
      have hkp := hkp.trans hX32_1
      have ha0 := ha0.mono hx32.1
      have hb_gr := hb_gr.mono hx32.1
      have hb_mn := hb_mn.mono hx32.1
      have hb_sp := hb_sp.mono hx32.1
      have hb_rw := hb_rw.mono hx32.1
      have hb_px := hb_px.mono hx32.1
      have hb_py := hb_py.mono hx32.1
      have hb_pz := hb_pz.mono hx32.1
      obtain ⟨fs32a0, hOfs32a0, hRfs32a0⟩ := hx32.1.keep hO_a0
      have hKfs32a0 : jokO _ (jFs 5) fs32a0 := hW _ _ id hOfs32a0
      have hFfs32a0_1 := hRfs32a0 _ _ hF_gr
      have hFfs32a0_2 := hRfs32a0 _ _ hF_mn
      have hFfs32a0_3 := hRfs32a0 _ _ hF_sp
      have hFfs32a0_4 := hRfs32a0 _ _ hF_rw
      have hFfs32a0_6 := hRfs32a0 _ _ hF_px
      have hFfs32a0_7 := hRfs32a0 _ _ hF_py
      have hFfs32a0_8 := hRfs32a0 _ _ hF_pz
      have ha_GA := hx32.2 _ _ ha_GA (jnot_of rfl)
      have ha_MN := hx32.2 _ _ ha_MN (jnot_of rfl)
      have ha_SP := hx32.2 _ _ ha_SP (jnot_of rfl)
      have ha_PX := hx32.2 _ _ ha_PX (jnot_of rfl)
      have ha_PY := hx32.2 _ _ ha_PY (jnot_of rfl)
      have ha_PZ := hx32.2 _ _ ha_PZ (jnot_of rfl)
      cases hr32
      have hFv32_0 := hfv32_0.get hOfs32a0
      have hzf32_0 : jEq fv32_0.toInt ((MN (x1.toInt).toNat).toInt) := hfp32_0
      clear hfp32_0
      obtain ⟨R2, hR2, hRe⟩ := hX32_0
      obtain ⟨hN_R2, hv_R2⟩ := WT_rngI (r := ((-2147483648), 2147483647)) hW id rfl hR2
      clear hN_R2
      refine J_aload_n dX7_step_35 rfl ?_
      refine J_get jf_X7_19 dX7_step_36 hOfs32a0 hFfs32a0_4 ?_
      refine J_aload_n dX7_step_39 rfl ?_
      refine J_get jf_X7_109 dX7_step_40 hOfs32a0 hFv32_0 ?_
      refine J_iload_n dX7_step_43 rfl ?_
      refine Jz_iast (r := ((-2147483648), 2147483647)) hzf32_0 jEq.rf hW id dX7_step_44 hR2 rfl rfl (by omega) (by omega) (j_rng _).1 (j_rng _).2 (fun V44 G44 hW hx44 hA44 hp44 ho44 => ?_)
      obtain ⟨hN44, hv44⟩ := WT_rngI (r := ((-2147483648), 2147483647)) hW id rfl hA44
      clear hN44
      have he := he.trans (hx44.sub (jsub_of rfl))
      have hkp := hkp.trans (jkc.of hx44 (jnot_of rfl))
      have ha0 := ha0.mono hx44.1
      have hb_gr := hb_gr.mono hx44.1
      have hb_mn := hb_mn.mono hx44.1
      have hb_sp := hb_sp.mono hx44.1
      have hb_rw := hb_rw.mono hx44.1
      have hb_px := hb_px.mono hx44.1
      have hb_py := hb_py.mono hx44.1
      have hb_pz := hb_pz.mono hx44.1
      have hOfs32a0 := hx44.2 _ _ hOfs32a0 (jnot_of rfl)
      have hKfs32a0 := hKfs32a0.mono hx44.1
      have ha_GA := hx44.2 _ _ ha_GA (jnot_of rfl)
      have ha_MN := hx44.2 _ _ ha_MN (jnot_of rfl)
      have ha_SP := hx44.2 _ _ ha_SP (jnot_of rfl)
      have ha_PX := hx44.2 _ _ ha_PX (jnot_of rfl)
      have ha_PY := hx44.2 _ _ ha_PY (jnot_of rfl)
      have ha_PZ := hx44.2 _ _ ha_PZ (jnot_of rfl)
      have hrow : ∀ k : Nat, k < (MN x1.toInt.toNat).toInt.toNat + 1 → (G44 k).toInt = (jTs (fun q => (SP (60 * x1.toInt.toNat + q)).toInt) (MN x1.toInt.toNat).toInt.toNat x2.toInt) k := jTs_row (fun j hj => by rw [ho44 j (by omega)]; exact hRe j (by omega)) hp44
      refine J_aload_n dX7_step_45 rfl ?_
      refine J_dup dX7_step_46 rfl ?_
      refine J_get jf_X7_109 dX7_step_47 hOfs32a0 hFv32_0 ?_
      refine Jz_iconst 1 dX7_step_50 (by decide) (fun y50 he50 => ?_)
      refine Jz_iadd hzf32_0 he50 dX7_step_51 (by omega) (by omega) (fun y51 he51 => ?_)
      refine Jz_putI hOfs32a0 hW id rfl jf_X7_109 jt_X7_5 he51 dX7_step_52 (by omega) (by omega) (fun _ _ => ⟨rfl, rfl⟩) (fun V52 fs52 hW hx52 hO52 hS52 hT52 hB52 => ?_)
      have hK52 : jokO _ (jFs 5) fs52 := hW _ _ id hO52
      have hF52_1 := (hT52 1 (by decide)).trans hFfs32a0_1
      have hF52_2 := (hT52 2 (by decide)).trans hFfs32a0_2
      have hF52_3 := (hT52 3 (by decide)).trans hFfs32a0_3
      have hF52_4 := (hT52 4 (by decide)).trans hFfs32a0_4
      have hF52_6 := (hT52 6 (by decide)).trans hFfs32a0_6
      have hF52_7 := (hT52 7 (by decide)).trans hFfs32a0_7
      have hF52_8 := (hT52 8 (by decide)).trans hFfs32a0_8
      have he := he.trans (hx52.sub (jsub_of rfl))
      have hkp := hkp.trans (jkc.put hOfs32a0 hO52 hT52 hB52 (by decide))
      have ha0 := ha0.mono hx52.1
      have hb_gr := hb_gr.mono hx52.1
      have hb_mn := hb_mn.mono hx52.1
      have hb_sp := hb_sp.mono hx52.1
      have hb_rw := hb_rw.mono hx52.1
      have hb_px := hb_px.mono hx52.1
      have hb_py := hb_py.mono hx52.1
      have hb_pz := hb_pz.mono hx52.1
      have ha_GA := hx52.2 _ _ ha_GA (jnot_of rfl)
      have ha_MN := hx52.2 _ _ ha_MN (jnot_of rfl)
      have ha_SP := hx52.2 _ _ ha_SP (jnot_of rfl)
      have ha_PX := hx52.2 _ _ ha_PX (jnot_of rfl)
      have ha_PY := hx52.2 _ _ ha_PY (jnot_of rfl)
      have ha_PZ := hx52.2 _ _ ha_PZ (jnot_of rfl)
      have hA44 := hx52.2 _ _ hA44 (jnot_of rfl)
      refine J_aload_n dX7_step_55 rfl ?_
      refine J_iload_n dX7_step_56 rfl ?_
      refine Jw_callV1 (q9 := (RX7, TX7, 34)) moX7_becomes jw_ml_X7_140 jw_im_X7_becomes jw_se_X7_becomes ha0 rfl rfl dX7_step_57 (w_X7_becomes_no (d - 1) _ a0 x1 y51 gr mn sp rw px py pz GA MN SP G44 PX PY PZ (by omega) hW  ha0 ⟨_, hO52, hS52⟩ ⟨_, hO52, hF52_1⟩ ⟨_, hO52, hF52_2⟩ ⟨_, hO52, hF52_3⟩ ⟨_, hO52, hF52_4⟩ ⟨_, hO52, hF52_6⟩ ⟨_, hO52, hF52_7⟩ ⟨_, hO52, hF52_8⟩ ha_GA ha_MN ha_SP hA44 ha_PX ha_PY ha_PZ (by omega) (by omega) (fun h => hp4 (by rw [he51.eq, show ((MN x1.toInt.toNat).toInt + 1).toNat = (MN x1.toInt.toNat).toInt.toNat + 1 by omega] at h; exact h.congr hrow))) (by omega) (Nat.zero_le _) (Nat.zero_le _) (Nat.le_of_ble_eq_true rfl) (fun r57 V57 h57 => ?_)
      obtain ⟨hW, hx57, hr57⟩ := h57
      have he := he.trans (hx57.sub (jsub_of rfl))
      have hkp := hkp.trans (jkc.of hx57 (jnot_of rfl))
      have ha0 := ha0.mono hx57.1
      have hb_gr := hb_gr.mono hx57.1
      have hb_mn := hb_mn.mono hx57.1
      have hb_sp := hb_sp.mono hx57.1
      have hb_rw := hb_rw.mono hx57.1
      have hb_px := hb_px.mono hx57.1
      have hb_py := hb_py.mono hx57.1
      have hb_pz := hb_pz.mono hx57.1
      have hO52 := hx57.2 _ _ hO52 (jnot_of rfl)
      have hK52 := hK52.mono hx57.1
      have ha_GA := hx57.2 _ _ ha_GA (jnot_of rfl)
      have ha_MN := hx57.2 _ _ ha_MN (jnot_of rfl)
      have ha_SP := hx57.2 _ _ ha_SP (jnot_of rfl)
      have hA44 := hx57.2 _ _ hA44 (jnot_of rfl)
      obtain ⟨y57, rfl, hl57, hh57, hP57_0⟩ := hr57
      clear hl57 hh57
      try simp only [he51.eq] at hP57_0
      exact J_ret (r := some (.int _)) dX7_step_60 ⟨rfl, _, rfl, rfl⟩ (⟨⟨hW, he, ⟨_, rfl, (j_rng _).1, (j_rng _).2, (by omega)⟩⟩, hkp⟩)
    · have q24_1 := hI21_1.of (by omega)
      try simp only [he9.eq, he20.eq] at q24_1
      exact False.elim (by omega)
set_option maxRecDepth 100000 in
set_option maxHeartbeats 8000000 in
theorem w_X7_step_full {tS : jTS} (d : Nat) (V0 : jH) (a0 : Nat) (x1 : Int32) (x2 : Int32) (v0 : Int32) (gr : Nat) (mn : Nat) (sp : Nat) (rw : Nat) (px : Nat) (py : Nat) (pz : Nat) (GA : Nat → Int32) (MN : Nat → Int32) (SP : Nat → Int32) (RW : Nat → Int32) (PX : Nat → Int32) (PY : Nat → Int32) (PZ : Nat → Int32) (hd : 3 ≤ d) (hW : WT V0) (ha0 : jis V0 (.inr 5) a0) (hf_v0 : jfI V0 a0 5 0 v0) (hr_gr : jfR V0 a0 5 1 gr) (hr_mn : jfR V0 a0 5 2 mn) (hr_sp : jfR V0 a0 5 3 sp) (hr_rw : jfR V0 a0 5 4 rw) (hr_px : jfR V0 a0 5 6 px) (hr_py : jfR V0 a0 5 7 py) (hr_pz : jfR V0 a0 5 8 pz) (ha_GA : V0 gr = some (.inl (14, 16, .inl GA))) (ha_MN : V0 mn = some (.inl (15, 16, .inl MN))) (ha_SP : V0 sp = some (.inl (16, 960, .inl SP))) (ha_RW : V0 rw = some (.inl (17, 120, .inl RW))) (ha_PX : V0 px = some (.inl (18, 121, .inl PX))) (ha_PY : V0 py = some (.inl (19, 121, .inl PY))) (ha_PZ : V0 pz = some (.inl (20, 121, .inl PZ))) (hp0 : 0 ≤ x1.toInt) (hp1 : x1.toInt < v0.toInt) (hp2 : 0 ≤ x2.toInt) (hp3 : x2.toInt < jdir (GA x1.toInt.toNat).toInt) (hp4 : jav (GA x1.toInt.toNat).toInt (jTs (fun q => (SP (60 * x1.toInt.toNat + q)).toInt) (MN x1.toInt.toNat).toInt.toNat x2.toInt) ((MN x1.toInt.toNat).toInt.toNat + 1)) (hp5 : (MN x1.toInt.toNat).toInt = 60) : jTot tS mX7_step d [.ref a0, .int x1, .int x2] V0 0 0 (fun r V => (jPost [.inr 5, .inl 17, .inl 18, .inl 19, .inl 20] V0 (fun r _ => ∃ y : Int32, r = some (.int y) ∧ ((-2147483648) ≤ y.toInt) ∧ (y.toInt ≤ 2147483647) ∧ (y.toInt = -4))) r V ∧ jkc 5 [0, 23, 24] V0 V) := by
  refine jTot.of_J [some (.ref a0), some (.int x1), some (.int x2)] moX7_step (Nat.le_of_ble_eq_true rfl) rfl ?_
  have hrx1 := j_rng x1
  have hrx2 := j_rng x2
  have he : jeff [.inr 5, .inl 17, .inl 18, .inl 19, .inl 20] V0 V0 := jeff.refl _ _
  have hkp : jkc 5 [0, 23, 24] V0 V0 := jkc.rf
  obtain ⟨fs_a0, hO_a0, hK_a0⟩ := WT_obj hW id ha0
  have hF_v0 := hf_v0.get hO_a0
  have hrv0 : 0 ≤ v0.toInt ∧ v0.toInt ≤ 16 := jok_rngI hK_a0 rfl hF_v0
  have hF_gr := hr_gr.get hO_a0
  obtain ⟨w_gr, hFq_gr, b_gr, hbq_gr, hb_gr⟩ := hK_a0.2 1 (.inr (some (.inl 14))) rfl
  cases hF_gr.symm.trans (hFq_gr.trans (congrArg some hbq_gr))
  have hF_mn := hr_mn.get hO_a0
  obtain ⟨w_mn, hFq_mn, b_mn, hbq_mn, hb_mn⟩ := hK_a0.2 2 (.inr (some (.inl 15))) rfl
  cases hF_mn.symm.trans (hFq_mn.trans (congrArg some hbq_mn))
  have hF_sp := hr_sp.get hO_a0
  obtain ⟨w_sp, hFq_sp, b_sp, hbq_sp, hb_sp⟩ := hK_a0.2 3 (.inr (some (.inl 16))) rfl
  cases hF_sp.symm.trans (hFq_sp.trans (congrArg some hbq_sp))
  have hF_rw := hr_rw.get hO_a0
  obtain ⟨w_rw, hFq_rw, b_rw, hbq_rw, hb_rw⟩ := hK_a0.2 4 (.inr (some (.inl 17))) rfl
  cases hF_rw.symm.trans (hFq_rw.trans (congrArg some hbq_rw))
  have hF_px := hr_px.get hO_a0
  obtain ⟨w_px, hFq_px, b_px, hbq_px, hb_px⟩ := hK_a0.2 6 (.inr (some (.inl 18))) rfl
  cases hF_px.symm.trans (hFq_px.trans (congrArg some hbq_px))
  have hF_py := hr_py.get hO_a0
  obtain ⟨w_py, hFq_py, b_py, hbq_py, hb_py⟩ := hK_a0.2 7 (.inr (some (.inl 19))) rfl
  cases hF_py.symm.trans (hFq_py.trans (congrArg some hbq_py))
  have hF_pz := hr_pz.get hO_a0
  obtain ⟨w_pz, hFq_pz, b_pz, hbq_pz, hb_pz⟩ := hK_a0.2 8 (.inr (some (.inl 20))) rfl
  cases hF_pz.symm.trans (hFq_pz.trans (congrArg some hbq_pz))
  obtain ⟨hN_GA, hv_GA⟩ := WT_rngI (r := (0, 3)) hW id rfl ha_GA
  clear hN_GA
  obtain ⟨hN_MN, hv_MN⟩ := WT_rngI (r := (0, 60)) hW id rfl ha_MN
  clear hN_MN
  obtain ⟨hN_SP, hv_SP⟩ := WT_rngI (r := ((-2147483648), 2147483647)) hW id rfl ha_SP
  clear hN_SP
  obtain ⟨hN_RW, hv_RW⟩ := WT_rngI (r := ((-2147483648), 2147483647)) hW id rfl ha_RW
  clear hN_RW
  obtain ⟨hN_PX, hv_PX⟩ := WT_rngI (r := ((-2147483648), 2147483647)) hW id rfl ha_PX
  clear hN_PX
  obtain ⟨hN_PY, hv_PY⟩ := WT_rngI (r := ((-2147483648), 2147483647)) hW id rfl ha_PY
  clear hN_PY
  obtain ⟨hN_PZ, hv_PZ⟩ := WT_rngI (r := ((-2147483648), 2147483647)) hW id rfl ha_PZ
  clear hN_PZ
  refine J_aload_n dX7_step_0 rfl ?_
  refine J_iload_n dX7_step_1 rfl ?_
  refine Jw_callV1 (q9 := (RX7, TX7, 34)) moX7_isWalk jw_ml_X7_130 jw_im_X7_isWalk jw_se_X7_isWalk ha0 rfl rfl dX7_step_2 (w_X7_isWalk_z (d - 1) _ a0 x1 v0 (by omega) hW  ha0 ⟨_, hO_a0, hF_v0⟩) (by omega) (Nat.zero_le _) (Nat.zero_le _) (Nat.le_of_ble_eq_true rfl) (fun r2 V2 h2 => ?_)
  obtain ⟨⟨y2, rfl, hl2, hh2, hP2_0⟩, hE2⟩ := h2
  have hE2 := hE2.symm
  subst hE2
  refine Jz_if_eq (tgt := 27) jEq.rf dX7_step_5 (by decide) (fun c5 => ?_) (fun c5 => ?_)
  · exact False.elim (by omega)
  · refine J_iload_n dX7_step_8 rfl ?_
    refine Jz_iconst 0 dX7_step_9 (by decide) (fun y9 he9 => ?_)
    refine J_aload_n dX7_step_10 rfl ?_
    refine J_get jf_X7_7 dX7_step_11 hO_a0 hF_gr ?_
    refine J_iload_n dX7_step_14 rfl ?_
    refine Jz_iald (r := (0, 3)) jEq.rf dX7_step_15 ha_GA rfl hv_GA (by omega) (by omega) (fun y15 hf15 hl15 hh15 => ?_)
    dsimp only at hl15 hh15
    have hq15 : (GA x1.toInt.toNat).toInt = y15.toInt := by rw [hf15]
    have hp3b := hp3
    rw [hq15] at hp3b
    refine J_callS1 moX7_directions jw_ml_X7_133 jw_st_X7_directions dX7_step_16 (w_X7_directions (d - 1) _ y15 (by omega)   ) (by omega) (Nat.zero_le _) (Nat.zero_le _) (Nat.le_of_ble_eq_true rfl) (fun r16 V16 h16 => ?_)
    obtain ⟨⟨y16, rfl, hl16, hh16, hP16_0⟩, hE16⟩ := h16
    have hE16 := hE16.symm
    subst hE16
    have hz16 : jEq y16.toInt (jdir (y15.toInt)) := hP16_0
    simp only [hP16_0] at hl16 hh16
    clear hP16_0
    refine Jz_iconst 1 dX7_step_19 (by decide) (fun y19 he19 => ?_)
    refine Jz_isub hz16 he19 dX7_step_20 (by omega) (by omega) (fun y20 he20 => ?_)
    refine J_callS3 moX7_in jw_ml_X7_105 jw_st_X7_in dX7_step_21 (w_X7_in (d - 1) _ x2 y9 y20 (by omega)   ) (by omega) (Nat.zero_le _) (Nat.zero_le _) (Nat.le_of_ble_eq_true rfl) (fun r21 V21 h21 => ?_)
    obtain ⟨⟨y21, rfl, hl21, hh21, hI21_0, hI21_1⟩, hE21⟩ := h21
    have hE21 := hE21.symm
    subst hE21
    refine Jz_if_ne (tgt := 30) jEq.rf dX7_step_24 (by decide) (fun c24 => ?_) (fun c24 => ?_)
    · have q24_0 := hI21_0.of (by omega)
      try simp only [he9.eq, he20.eq] at q24_0
      refine J_aload_n dX7_step_30 rfl ?_
      refine J_iload_n dX7_step_31 rfl ?_
      have hmr := hv_MN x1.toInt.toNat (by omega)
      dsimp only at hmr
      refine Jw_callV1 (q9 := (RX7, TX7, 34)) moX7_brings jw_ml_X7_137 jw_im_X7_brings jw_se_X7_brings ha0 rfl rfl dX7_step_32 (w_X7_brings_z (d - 1) _ a0 x1 mn sp rw MN SP RW (by omega) hW  ha0 ⟨_, hO_a0, hF_mn⟩ ⟨_, hO_a0, hF_sp⟩ ⟨_, hO_a0, hF_rw⟩ ha_MN ha_SP ha_RW (by omega) (by omega)) (by omega) (Nat.zero_le _) (Nat.zero_le _) (Nat.le_of_ble_eq_true rfl) (fun r32 V32 h32 => ?_)
      obtain ⟨h32, hX32_0, hX32_1, ⟨fv32_0, hfv32_0, hfp32_0⟩⟩ := h32
      obtain ⟨hW, hx32, hr32⟩ := h32
      have he := he.trans (hx32.sub (jsub_of rfl))
      have hkp := hkp.trans hX32_1
      have ha0 := ha0.mono hx32.1
      have hb_gr := hb_gr.mono hx32.1
      have hb_mn := hb_mn.mono hx32.1
      have hb_sp := hb_sp.mono hx32.1
      have hb_rw := hb_rw.mono hx32.1
      have hb_px := hb_px.mono hx32.1
      have hb_py := hb_py.mono hx32.1
      have hb_pz := hb_pz.mono hx32.1
      obtain ⟨fs32a0, hOfs32a0, hRfs32a0⟩ := hx32.1.keep hO_a0
      have hKfs32a0 : jokO _ (jFs 5) fs32a0 := hW _ _ id hOfs32a0
      have hFfs32a0_1 := hRfs32a0 _ _ hF_gr
      have hFfs32a0_2 := hRfs32a0 _ _ hF_mn
      have hFfs32a0_3 := hRfs32a0 _ _ hF_sp
      have hFfs32a0_4 := hRfs32a0 _ _ hF_rw
      have hFfs32a0_6 := hRfs32a0 _ _ hF_px
      have hFfs32a0_7 := hRfs32a0 _ _ hF_py
      have hFfs32a0_8 := hRfs32a0 _ _ hF_pz
      have ha_GA := hx32.2 _ _ ha_GA (jnot_of rfl)
      have ha_MN := hx32.2 _ _ ha_MN (jnot_of rfl)
      have ha_SP := hx32.2 _ _ ha_SP (jnot_of rfl)
      have ha_PX := hx32.2 _ _ ha_PX (jnot_of rfl)
      have ha_PY := hx32.2 _ _ ha_PY (jnot_of rfl)
      have ha_PZ := hx32.2 _ _ ha_PZ (jnot_of rfl)
      cases hr32
      have hFv32_0 := hfv32_0.get hOfs32a0
      have hzf32_0 : jEq fv32_0.toInt ((MN (x1.toInt).toNat).toInt) := hfp32_0
      clear hfp32_0
      obtain ⟨R2, hR2, hRe⟩ := hX32_0
      obtain ⟨hN_R2, hv_R2⟩ := WT_rngI (r := ((-2147483648), 2147483647)) hW id rfl hR2
      clear hN_R2
      refine J_aload_n dX7_step_35 rfl ?_
      refine J_get jf_X7_19 dX7_step_36 hOfs32a0 hFfs32a0_4 ?_
      refine J_aload_n dX7_step_39 rfl ?_
      refine J_get jf_X7_109 dX7_step_40 hOfs32a0 hFv32_0 ?_
      refine J_iload_n dX7_step_43 rfl ?_
      refine Jz_iast (r := ((-2147483648), 2147483647)) hzf32_0 jEq.rf hW id dX7_step_44 hR2 rfl rfl (by omega) (by omega) (j_rng _).1 (j_rng _).2 (fun V44 G44 hW hx44 hA44 hp44 ho44 => ?_)
      obtain ⟨hN44, hv44⟩ := WT_rngI (r := ((-2147483648), 2147483647)) hW id rfl hA44
      clear hN44
      have he := he.trans (hx44.sub (jsub_of rfl))
      have hkp := hkp.trans (jkc.of hx44 (jnot_of rfl))
      have ha0 := ha0.mono hx44.1
      have hb_gr := hb_gr.mono hx44.1
      have hb_mn := hb_mn.mono hx44.1
      have hb_sp := hb_sp.mono hx44.1
      have hb_rw := hb_rw.mono hx44.1
      have hb_px := hb_px.mono hx44.1
      have hb_py := hb_py.mono hx44.1
      have hb_pz := hb_pz.mono hx44.1
      have hOfs32a0 := hx44.2 _ _ hOfs32a0 (jnot_of rfl)
      have hKfs32a0 := hKfs32a0.mono hx44.1
      have ha_GA := hx44.2 _ _ ha_GA (jnot_of rfl)
      have ha_MN := hx44.2 _ _ ha_MN (jnot_of rfl)
      have ha_SP := hx44.2 _ _ ha_SP (jnot_of rfl)
      have ha_PX := hx44.2 _ _ ha_PX (jnot_of rfl)
      have ha_PY := hx44.2 _ _ ha_PY (jnot_of rfl)
      have ha_PZ := hx44.2 _ _ ha_PZ (jnot_of rfl)
      have hrow : ∀ k : Nat, k < (MN x1.toInt.toNat).toInt.toNat + 1 → (G44 k).toInt = (jTs (fun q => (SP (60 * x1.toInt.toNat + q)).toInt) (MN x1.toInt.toNat).toInt.toNat x2.toInt) k := jTs_row (fun j hj => by rw [ho44 j (by omega)]; exact hRe j (by omega)) hp44
      refine J_aload_n dX7_step_45 rfl ?_
      refine J_dup dX7_step_46 rfl ?_
      refine J_get jf_X7_109 dX7_step_47 hOfs32a0 hFv32_0 ?_
      refine Jz_iconst 1 dX7_step_50 (by decide) (fun y50 he50 => ?_)
      refine Jz_iadd hzf32_0 he50 dX7_step_51 (by omega) (by omega) (fun y51 he51 => ?_)
      refine Jz_putI hOfs32a0 hW id rfl jf_X7_109 jt_X7_5 he51 dX7_step_52 (by omega) (by omega) (fun _ _ => ⟨rfl, rfl⟩) (fun V52 fs52 hW hx52 hO52 hS52 hT52 hB52 => ?_)
      have hK52 : jokO _ (jFs 5) fs52 := hW _ _ id hO52
      have hF52_1 := (hT52 1 (by decide)).trans hFfs32a0_1
      have hF52_2 := (hT52 2 (by decide)).trans hFfs32a0_2
      have hF52_3 := (hT52 3 (by decide)).trans hFfs32a0_3
      have hF52_4 := (hT52 4 (by decide)).trans hFfs32a0_4
      have hF52_6 := (hT52 6 (by decide)).trans hFfs32a0_6
      have hF52_7 := (hT52 7 (by decide)).trans hFfs32a0_7
      have hF52_8 := (hT52 8 (by decide)).trans hFfs32a0_8
      have he := he.trans (hx52.sub (jsub_of rfl))
      have hkp := hkp.trans (jkc.put hOfs32a0 hO52 hT52 hB52 (by decide))
      have ha0 := ha0.mono hx52.1
      have hb_gr := hb_gr.mono hx52.1
      have hb_mn := hb_mn.mono hx52.1
      have hb_sp := hb_sp.mono hx52.1
      have hb_rw := hb_rw.mono hx52.1
      have hb_px := hb_px.mono hx52.1
      have hb_py := hb_py.mono hx52.1
      have hb_pz := hb_pz.mono hx52.1
      have ha_GA := hx52.2 _ _ ha_GA (jnot_of rfl)
      have ha_MN := hx52.2 _ _ ha_MN (jnot_of rfl)
      have ha_SP := hx52.2 _ _ ha_SP (jnot_of rfl)
      have ha_PX := hx52.2 _ _ ha_PX (jnot_of rfl)
      have ha_PY := hx52.2 _ _ ha_PY (jnot_of rfl)
      have ha_PZ := hx52.2 _ _ ha_PZ (jnot_of rfl)
      have hA44 := hx52.2 _ _ hA44 (jnot_of rfl)
      refine J_aload_n dX7_step_55 rfl ?_
      refine J_iload_n dX7_step_56 rfl ?_
      refine Jw_callV1 (q9 := (RX7, TX7, 34)) moX7_becomes jw_ml_X7_140 jw_im_X7_becomes jw_se_X7_becomes ha0 rfl rfl dX7_step_57 (w_X7_becomes_full (d - 1) _ a0 x1 y51 gr mn sp rw px py pz GA MN SP G44 PX PY PZ (by omega) hW  ha0 ⟨_, hO52, hS52⟩ ⟨_, hO52, hF52_1⟩ ⟨_, hO52, hF52_2⟩ ⟨_, hO52, hF52_3⟩ ⟨_, hO52, hF52_4⟩ ⟨_, hO52, hF52_6⟩ ⟨_, hO52, hF52_7⟩ ⟨_, hO52, hF52_8⟩ ha_GA ha_MN ha_SP hA44 ha_PX ha_PY ha_PZ (by omega) (by omega) (by rw [he51.eq, show ((MN x1.toInt.toNat).toInt + 1).toNat = (MN x1.toInt.toNat).toInt.toNat + 1 by omega]; exact hp4.congr (fun k hk => (hrow k hk).symm)) (by rw [he51.eq]; omega)) (by omega) (Nat.zero_le _) (Nat.zero_le _) (Nat.le_of_ble_eq_true rfl) (fun r57 V57 h57 => ?_)
      obtain ⟨hW, hx57, hr57⟩ := h57
      have he := he.trans (hx57.sub (jsub_of rfl))
      have hkp := hkp.trans (jkc.of hx57 (jnot_of rfl))
      have ha0 := ha0.mono hx57.1
      have hb_gr := hb_gr.mono hx57.1
      have hb_mn := hb_mn.mono hx57.1
      have hb_sp := hb_sp.mono hx57.1
      have hb_rw := hb_rw.mono hx57.1
      have hb_px := hb_px.mono hx57.1
      have hb_py := hb_py.mono hx57.1
      have hb_pz := hb_pz.mono hx57.1
      have hO52 := hx57.2 _ _ hO52 (jnot_of rfl)
      have hK52 := hK52.mono hx57.1
      have ha_GA := hx57.2 _ _ ha_GA (jnot_of rfl)
      have ha_MN := hx57.2 _ _ ha_MN (jnot_of rfl)
      have ha_SP := hx57.2 _ _ ha_SP (jnot_of rfl)
      have hA44 := hx57.2 _ _ hA44 (jnot_of rfl)
      obtain ⟨y57, rfl, hl57, hh57, hP57_0⟩ := hr57
      clear hl57 hh57
      try simp only [he51.eq] at hP57_0
      exact J_ret (r := some (.int _)) dX7_step_60 ⟨rfl, _, rfl, rfl⟩ (⟨⟨hW, he, ⟨_, rfl, (j_rng _).1, (j_rng _).2, (by omega)⟩⟩, hkp⟩)
    · have q24_1 := hI21_1.of (by omega)
      try simp only [he9.eq, he20.eq] at q24_1
      exact False.elim (by omega)
set_option maxRecDepth 100000 in
set_option maxHeartbeats 8000000 in
theorem w_X7_step_ok {tS : jTS} (d : Nat) (V0 : jH) (a0 : Nat) (x1 : Int32) (x2 : Int32) (v0 : Int32) (gr : Nat) (mn : Nat) (sp : Nat) (rw : Nat) (px : Nat) (py : Nat) (pz : Nat) (GA : Nat → Int32) (MN : Nat → Int32) (SP : Nat → Int32) (RW : Nat → Int32) (PX : Nat → Int32) (PY : Nat → Int32) (PZ : Nat → Int32) (hd : 3 ≤ d) (hW : WT V0) (ha0 : jis V0 (.inr 5) a0) (hf_v0 : jfI V0 a0 5 0 v0) (hr_gr : jfR V0 a0 5 1 gr) (hr_mn : jfR V0 a0 5 2 mn) (hr_sp : jfR V0 a0 5 3 sp) (hr_rw : jfR V0 a0 5 4 rw) (hr_px : jfR V0 a0 5 6 px) (hr_py : jfR V0 a0 5 7 py) (hr_pz : jfR V0 a0 5 8 pz) (ha_GA : V0 gr = some (.inl (14, 16, .inl GA))) (ha_MN : V0 mn = some (.inl (15, 16, .inl MN))) (ha_SP : V0 sp = some (.inl (16, 960, .inl SP))) (ha_RW : V0 rw = some (.inl (17, 120, .inl RW))) (ha_PX : V0 px = some (.inl (18, 121, .inl PX))) (ha_PY : V0 py = some (.inl (19, 121, .inl PY))) (ha_PZ : V0 pz = some (.inl (20, 121, .inl PZ))) (hp0 : 0 ≤ x1.toInt) (hp1 : x1.toInt < v0.toInt) (hp2 : 0 ≤ x2.toInt) (hp3 : x2.toInt < jdir (GA x1.toInt.toNat).toInt) (hp4 : jav (GA x1.toInt.toNat).toInt (jTs (fun q => (SP (60 * x1.toInt.toNat + q)).toInt) (MN x1.toInt.toNat).toInt.toNat x2.toInt) ((MN x1.toInt.toNat).toInt.toNat + 1)) (hp5 : (MN x1.toInt.toNat).toInt < 60) : jTot tS mX7_step d [.ref a0, .int x1, .int x2] V0 0 0 (fun r V => (jPost [.inr 5, .inl 17, .inl 18, .inl 19, .inl 20, .inl 15, .inl 16] V0 (fun r _ => ∃ y : Int32, r = some (.int y) ∧ ((-2147483648) ≤ y.toInt) ∧ (y.toInt ≤ 2147483647) ∧ (y.toInt = (MN x1.toInt.toNat).toInt + 1))) r V ∧ (∃ M2 : Nat → Int32, V mn = some (.inl (15, 16, .inl M2)) ∧ (M2 x1.toInt.toNat).toInt = (MN x1.toInt.toNat).toInt + 1 ∧ ∀ j : Nat, j ≠ x1.toInt.toNat → M2 j = MN j) ∧ (∃ S2 : Nat → Int32, V sp = some (.inl (16, 960, .inl S2)) ∧ (∀ j : Nat, (j : Int) < (MN x1.toInt.toNat).toInt + 1 → (S2 (60 * x1.toInt.toNat + j)).toInt = (jTs (fun q => (SP (60 * x1.toInt.toNat + q)).toInt) (MN x1.toInt.toNat).toInt.toNat x2.toInt) j) ∧ ∀ q : Nat, q < 60 * x1.toInt.toNat ∨ 60 * x1.toInt.toNat + 60 ≤ q → S2 q = SP q) ∧ jkc 5 [0, 23, 24] V0 V) := by
  refine jTot.of_J [some (.ref a0), some (.int x1), some (.int x2)] moX7_step (Nat.le_of_ble_eq_true rfl) rfl ?_
  have hrx1 := j_rng x1
  have hrx2 := j_rng x2
  have he : jeff [.inr 5, .inl 17, .inl 18, .inl 19, .inl 20, .inl 15, .inl 16] V0 V0 := jeff.refl _ _
  have hkp : jkc 5 [0, 23, 24] V0 V0 := jkc.rf
  obtain ⟨fs_a0, hO_a0, hK_a0⟩ := WT_obj hW id ha0
  have hF_v0 := hf_v0.get hO_a0
  have hrv0 : 0 ≤ v0.toInt ∧ v0.toInt ≤ 16 := jok_rngI hK_a0 rfl hF_v0
  have hF_gr := hr_gr.get hO_a0
  obtain ⟨w_gr, hFq_gr, b_gr, hbq_gr, hb_gr⟩ := hK_a0.2 1 (.inr (some (.inl 14))) rfl
  cases hF_gr.symm.trans (hFq_gr.trans (congrArg some hbq_gr))
  have hF_mn := hr_mn.get hO_a0
  obtain ⟨w_mn, hFq_mn, b_mn, hbq_mn, hb_mn⟩ := hK_a0.2 2 (.inr (some (.inl 15))) rfl
  cases hF_mn.symm.trans (hFq_mn.trans (congrArg some hbq_mn))
  have hF_sp := hr_sp.get hO_a0
  obtain ⟨w_sp, hFq_sp, b_sp, hbq_sp, hb_sp⟩ := hK_a0.2 3 (.inr (some (.inl 16))) rfl
  cases hF_sp.symm.trans (hFq_sp.trans (congrArg some hbq_sp))
  have hF_rw := hr_rw.get hO_a0
  obtain ⟨w_rw, hFq_rw, b_rw, hbq_rw, hb_rw⟩ := hK_a0.2 4 (.inr (some (.inl 17))) rfl
  cases hF_rw.symm.trans (hFq_rw.trans (congrArg some hbq_rw))
  have hF_px := hr_px.get hO_a0
  obtain ⟨w_px, hFq_px, b_px, hbq_px, hb_px⟩ := hK_a0.2 6 (.inr (some (.inl 18))) rfl
  cases hF_px.symm.trans (hFq_px.trans (congrArg some hbq_px))
  have hF_py := hr_py.get hO_a0
  obtain ⟨w_py, hFq_py, b_py, hbq_py, hb_py⟩ := hK_a0.2 7 (.inr (some (.inl 19))) rfl
  cases hF_py.symm.trans (hFq_py.trans (congrArg some hbq_py))
  have hF_pz := hr_pz.get hO_a0
  obtain ⟨w_pz, hFq_pz, b_pz, hbq_pz, hb_pz⟩ := hK_a0.2 8 (.inr (some (.inl 20))) rfl
  cases hF_pz.symm.trans (hFq_pz.trans (congrArg some hbq_pz))
  obtain ⟨hN_GA, hv_GA⟩ := WT_rngI (r := (0, 3)) hW id rfl ha_GA
  clear hN_GA
  obtain ⟨hN_MN, hv_MN⟩ := WT_rngI (r := (0, 60)) hW id rfl ha_MN
  clear hN_MN
  obtain ⟨hN_SP, hv_SP⟩ := WT_rngI (r := ((-2147483648), 2147483647)) hW id rfl ha_SP
  clear hN_SP
  obtain ⟨hN_RW, hv_RW⟩ := WT_rngI (r := ((-2147483648), 2147483647)) hW id rfl ha_RW
  clear hN_RW
  obtain ⟨hN_PX, hv_PX⟩ := WT_rngI (r := ((-2147483648), 2147483647)) hW id rfl ha_PX
  clear hN_PX
  obtain ⟨hN_PY, hv_PY⟩ := WT_rngI (r := ((-2147483648), 2147483647)) hW id rfl ha_PY
  clear hN_PY
  obtain ⟨hN_PZ, hv_PZ⟩ := WT_rngI (r := ((-2147483648), 2147483647)) hW id rfl ha_PZ
  clear hN_PZ
  refine J_aload_n dX7_step_0 rfl ?_
  refine J_iload_n dX7_step_1 rfl ?_
  refine Jw_callV1 (q9 := (RX7, TX7, 34)) moX7_isWalk jw_ml_X7_130 jw_im_X7_isWalk jw_se_X7_isWalk ha0 rfl rfl dX7_step_2 (w_X7_isWalk_z (d - 1) _ a0 x1 v0 (by omega) hW  ha0 ⟨_, hO_a0, hF_v0⟩) (by omega) (Nat.zero_le _) (Nat.zero_le _) (Nat.le_of_ble_eq_true rfl) (fun r2 V2 h2 => ?_)
  obtain ⟨⟨y2, rfl, hl2, hh2, hP2_0⟩, hE2⟩ := h2
  have hE2 := hE2.symm
  subst hE2
  refine Jz_if_eq (tgt := 27) jEq.rf dX7_step_5 (by decide) (fun c5 => ?_) (fun c5 => ?_)
  · exact False.elim (by omega)
  · refine J_iload_n dX7_step_8 rfl ?_
    refine Jz_iconst 0 dX7_step_9 (by decide) (fun y9 he9 => ?_)
    refine J_aload_n dX7_step_10 rfl ?_
    refine J_get jf_X7_7 dX7_step_11 hO_a0 hF_gr ?_
    refine J_iload_n dX7_step_14 rfl ?_
    refine Jz_iald (r := (0, 3)) jEq.rf dX7_step_15 ha_GA rfl hv_GA (by omega) (by omega) (fun y15 hf15 hl15 hh15 => ?_)
    dsimp only at hl15 hh15
    have hq15 : (GA x1.toInt.toNat).toInt = y15.toInt := by rw [hf15]
    have hp3b := hp3
    rw [hq15] at hp3b
    refine J_callS1 moX7_directions jw_ml_X7_133 jw_st_X7_directions dX7_step_16 (w_X7_directions (d - 1) _ y15 (by omega)   ) (by omega) (Nat.zero_le _) (Nat.zero_le _) (Nat.le_of_ble_eq_true rfl) (fun r16 V16 h16 => ?_)
    obtain ⟨⟨y16, rfl, hl16, hh16, hP16_0⟩, hE16⟩ := h16
    have hE16 := hE16.symm
    subst hE16
    have hz16 : jEq y16.toInt (jdir (y15.toInt)) := hP16_0
    simp only [hP16_0] at hl16 hh16
    clear hP16_0
    refine Jz_iconst 1 dX7_step_19 (by decide) (fun y19 he19 => ?_)
    refine Jz_isub hz16 he19 dX7_step_20 (by omega) (by omega) (fun y20 he20 => ?_)
    refine J_callS3 moX7_in jw_ml_X7_105 jw_st_X7_in dX7_step_21 (w_X7_in (d - 1) _ x2 y9 y20 (by omega)   ) (by omega) (Nat.zero_le _) (Nat.zero_le _) (Nat.le_of_ble_eq_true rfl) (fun r21 V21 h21 => ?_)
    obtain ⟨⟨y21, rfl, hl21, hh21, hI21_0, hI21_1⟩, hE21⟩ := h21
    have hE21 := hE21.symm
    subst hE21
    refine Jz_if_ne (tgt := 30) jEq.rf dX7_step_24 (by decide) (fun c24 => ?_) (fun c24 => ?_)
    · have q24_0 := hI21_0.of (by omega)
      try simp only [he9.eq, he20.eq] at q24_0
      refine J_aload_n dX7_step_30 rfl ?_
      refine J_iload_n dX7_step_31 rfl ?_
      have hmr := hv_MN x1.toInt.toNat (by omega)
      dsimp only at hmr
      refine Jw_callV1 (q9 := (RX7, TX7, 34)) moX7_brings jw_ml_X7_137 jw_im_X7_brings jw_se_X7_brings ha0 rfl rfl dX7_step_32 (w_X7_brings_z (d - 1) _ a0 x1 mn sp rw MN SP RW (by omega) hW  ha0 ⟨_, hO_a0, hF_mn⟩ ⟨_, hO_a0, hF_sp⟩ ⟨_, hO_a0, hF_rw⟩ ha_MN ha_SP ha_RW (by omega) (by omega)) (by omega) (Nat.zero_le _) (Nat.zero_le _) (Nat.le_of_ble_eq_true rfl) (fun r32 V32 h32 => ?_)
      obtain ⟨h32, hX32_0, hX32_1, ⟨fv32_0, hfv32_0, hfp32_0⟩⟩ := h32
      obtain ⟨hW, hx32, hr32⟩ := h32
      have he := he.trans (hx32.sub (jsub_of rfl))
      have hkp := hkp.trans hX32_1
      have ha0 := ha0.mono hx32.1
      have hb_gr := hb_gr.mono hx32.1
      have hb_mn := hb_mn.mono hx32.1
      have hb_sp := hb_sp.mono hx32.1
      have hb_rw := hb_rw.mono hx32.1
      have hb_px := hb_px.mono hx32.1
      have hb_py := hb_py.mono hx32.1
      have hb_pz := hb_pz.mono hx32.1
      obtain ⟨fs32a0, hOfs32a0, hRfs32a0⟩ := hx32.1.keep hO_a0
      have hKfs32a0 : jokO _ (jFs 5) fs32a0 := hW _ _ id hOfs32a0
      have hFfs32a0_1 := hRfs32a0 _ _ hF_gr
      have hFfs32a0_2 := hRfs32a0 _ _ hF_mn
      have hFfs32a0_3 := hRfs32a0 _ _ hF_sp
      have hFfs32a0_4 := hRfs32a0 _ _ hF_rw
      have hFfs32a0_6 := hRfs32a0 _ _ hF_px
      have hFfs32a0_7 := hRfs32a0 _ _ hF_py
      have hFfs32a0_8 := hRfs32a0 _ _ hF_pz
      have ha_GA := hx32.2 _ _ ha_GA (jnot_of rfl)
      have ha_MN := hx32.2 _ _ ha_MN (jnot_of rfl)
      have ha_SP := hx32.2 _ _ ha_SP (jnot_of rfl)
      have ha_PX := hx32.2 _ _ ha_PX (jnot_of rfl)
      have ha_PY := hx32.2 _ _ ha_PY (jnot_of rfl)
      have ha_PZ := hx32.2 _ _ ha_PZ (jnot_of rfl)
      cases hr32
      have hFv32_0 := hfv32_0.get hOfs32a0
      have hzf32_0 : jEq fv32_0.toInt ((MN (x1.toInt).toNat).toInt) := hfp32_0
      clear hfp32_0
      obtain ⟨R2, hR2, hRe⟩ := hX32_0
      obtain ⟨hN_R2, hv_R2⟩ := WT_rngI (r := ((-2147483648), 2147483647)) hW id rfl hR2
      clear hN_R2
      refine J_aload_n dX7_step_35 rfl ?_
      refine J_get jf_X7_19 dX7_step_36 hOfs32a0 hFfs32a0_4 ?_
      refine J_aload_n dX7_step_39 rfl ?_
      refine J_get jf_X7_109 dX7_step_40 hOfs32a0 hFv32_0 ?_
      refine J_iload_n dX7_step_43 rfl ?_
      refine Jz_iast (r := ((-2147483648), 2147483647)) hzf32_0 jEq.rf hW id dX7_step_44 hR2 rfl rfl (by omega) (by omega) (j_rng _).1 (j_rng _).2 (fun V44 G44 hW hx44 hA44 hp44 ho44 => ?_)
      obtain ⟨hN44, hv44⟩ := WT_rngI (r := ((-2147483648), 2147483647)) hW id rfl hA44
      clear hN44
      have he := he.trans (hx44.sub (jsub_of rfl))
      have hkp := hkp.trans (jkc.of hx44 (jnot_of rfl))
      have ha0 := ha0.mono hx44.1
      have hb_gr := hb_gr.mono hx44.1
      have hb_mn := hb_mn.mono hx44.1
      have hb_sp := hb_sp.mono hx44.1
      have hb_rw := hb_rw.mono hx44.1
      have hb_px := hb_px.mono hx44.1
      have hb_py := hb_py.mono hx44.1
      have hb_pz := hb_pz.mono hx44.1
      have hOfs32a0 := hx44.2 _ _ hOfs32a0 (jnot_of rfl)
      have hKfs32a0 := hKfs32a0.mono hx44.1
      have ha_GA := hx44.2 _ _ ha_GA (jnot_of rfl)
      have ha_MN := hx44.2 _ _ ha_MN (jnot_of rfl)
      have ha_SP := hx44.2 _ _ ha_SP (jnot_of rfl)
      have ha_PX := hx44.2 _ _ ha_PX (jnot_of rfl)
      have ha_PY := hx44.2 _ _ ha_PY (jnot_of rfl)
      have ha_PZ := hx44.2 _ _ ha_PZ (jnot_of rfl)
      have hrow : ∀ k : Nat, k < (MN x1.toInt.toNat).toInt.toNat + 1 → (G44 k).toInt = (jTs (fun q => (SP (60 * x1.toInt.toNat + q)).toInt) (MN x1.toInt.toNat).toInt.toNat x2.toInt) k := jTs_row (fun j hj => by rw [ho44 j (by omega)]; exact hRe j (by omega)) hp44
      refine J_aload_n dX7_step_45 rfl ?_
      refine J_dup dX7_step_46 rfl ?_
      refine J_get jf_X7_109 dX7_step_47 hOfs32a0 hFv32_0 ?_
      refine Jz_iconst 1 dX7_step_50 (by decide) (fun y50 he50 => ?_)
      refine Jz_iadd hzf32_0 he50 dX7_step_51 (by omega) (by omega) (fun y51 he51 => ?_)
      refine Jz_putI hOfs32a0 hW id rfl jf_X7_109 jt_X7_5 he51 dX7_step_52 (by omega) (by omega) (fun _ _ => ⟨rfl, rfl⟩) (fun V52 fs52 hW hx52 hO52 hS52 hT52 hB52 => ?_)
      have hK52 : jokO _ (jFs 5) fs52 := hW _ _ id hO52
      have hF52_1 := (hT52 1 (by decide)).trans hFfs32a0_1
      have hF52_2 := (hT52 2 (by decide)).trans hFfs32a0_2
      have hF52_3 := (hT52 3 (by decide)).trans hFfs32a0_3
      have hF52_4 := (hT52 4 (by decide)).trans hFfs32a0_4
      have hF52_6 := (hT52 6 (by decide)).trans hFfs32a0_6
      have hF52_7 := (hT52 7 (by decide)).trans hFfs32a0_7
      have hF52_8 := (hT52 8 (by decide)).trans hFfs32a0_8
      have he := he.trans (hx52.sub (jsub_of rfl))
      have hkp := hkp.trans (jkc.put hOfs32a0 hO52 hT52 hB52 (by decide))
      have ha0 := ha0.mono hx52.1
      have hb_gr := hb_gr.mono hx52.1
      have hb_mn := hb_mn.mono hx52.1
      have hb_sp := hb_sp.mono hx52.1
      have hb_rw := hb_rw.mono hx52.1
      have hb_px := hb_px.mono hx52.1
      have hb_py := hb_py.mono hx52.1
      have hb_pz := hb_pz.mono hx52.1
      have ha_GA := hx52.2 _ _ ha_GA (jnot_of rfl)
      have ha_MN := hx52.2 _ _ ha_MN (jnot_of rfl)
      have ha_SP := hx52.2 _ _ ha_SP (jnot_of rfl)
      have ha_PX := hx52.2 _ _ ha_PX (jnot_of rfl)
      have ha_PY := hx52.2 _ _ ha_PY (jnot_of rfl)
      have ha_PZ := hx52.2 _ _ ha_PZ (jnot_of rfl)
      have hA44 := hx52.2 _ _ hA44 (jnot_of rfl)
      refine J_aload_n dX7_step_55 rfl ?_
      refine J_iload_n dX7_step_56 rfl ?_
      refine Jw_callV1 (q9 := (RX7, TX7, 34)) moX7_becomes jw_ml_X7_140 jw_im_X7_becomes jw_se_X7_becomes ha0 rfl rfl dX7_step_57 (w_X7_becomes_ok (d - 1) _ a0 x1 y51 gr mn sp rw px py pz GA MN SP G44 PX PY PZ (by omega) hW  ha0 ⟨_, hO52, hS52⟩ ⟨_, hO52, hF52_1⟩ ⟨_, hO52, hF52_2⟩ ⟨_, hO52, hF52_3⟩ ⟨_, hO52, hF52_4⟩ ⟨_, hO52, hF52_6⟩ ⟨_, hO52, hF52_7⟩ ⟨_, hO52, hF52_8⟩ ha_GA ha_MN ha_SP hA44 ha_PX ha_PY ha_PZ (by omega) (by omega) (by rw [he51.eq, show ((MN x1.toInt.toNat).toInt + 1).toNat = (MN x1.toInt.toNat).toInt.toNat + 1 by omega]; exact hp4.congr (fun k hk => (hrow k hk).symm)) (by rw [he51.eq]; omega)) (by omega) (Nat.zero_le _) (Nat.zero_le _) (Nat.le_of_ble_eq_true rfl) (fun r57 V57 h57 => ?_)
      obtain ⟨h57, hX57_0, hX57_1⟩ := h57
      obtain ⟨hW, hx57, hr57⟩ := h57
      have he := he.trans (hx57.sub (jsub_of rfl))
      have hkp := hkp.trans (jkc.of hx57 (jnot_of rfl))
      have ha0 := ha0.mono hx57.1
      have hb_gr := hb_gr.mono hx57.1
      have hb_mn := hb_mn.mono hx57.1
      have hb_sp := hb_sp.mono hx57.1
      have hb_rw := hb_rw.mono hx57.1
      have hb_px := hb_px.mono hx57.1
      have hb_py := hb_py.mono hx57.1
      have hb_pz := hb_pz.mono hx57.1
      have hO52 := hx57.2 _ _ hO52 (jnot_of rfl)
      have hK52 := hK52.mono hx57.1
      have ha_GA := hx57.2 _ _ ha_GA (jnot_of rfl)
      have hA44 := hx57.2 _ _ hA44 (jnot_of rfl)
      obtain ⟨y57, rfl, hl57, hh57, hP57_0⟩ := hr57
      clear hl57 hh57
      try simp only [he51.eq] at hP57_0
      exact J_ret (r := some (.int _)) dX7_step_60 ⟨rfl, _, rfl, rfl⟩ (⟨⟨hW, he, ⟨_, rfl, (j_rng _).1, (j_rng _).2, (by omega)⟩⟩, (hX57_0.imp (fun M2 q => ⟨q.1, by rw [q.2.1, he51.eq], q.2.2⟩)), (hX57_1.imp (fun S2 q => ⟨q.1, fun j hj => by rw [q.2.1 j (by rw [he51.eq]; omega)]; exact hrow j (by omega), q.2.2⟩)), hkp⟩)
    · have q24_1 := hI21_1.of (by omega)
      try simp only [he9.eq, he20.eq] at q24_1
      exact False.elim (by omega)
set_option maxRecDepth 100000 in
set_option maxHeartbeats 8000000 in
theorem w_X7_back_bad {tS : jTS} (d : Nat) (V0 : jH) (a0 : Nat) (x1 : Int32) (x2 : Int32) (v0 : Int32) (gr : Nat) (mn : Nat) (sp : Nat) (rw : Nat) (px : Nat) (py : Nat) (pz : Nat) (GA : Nat → Int32) (MN : Nat → Int32) (SP : Nat → Int32) (RW : Nat → Int32) (PX : Nat → Int32) (PY : Nat → Int32) (PZ : Nat → Int32) (hd : 2 ≤ d) (hW : WT V0) (ha0 : jis V0 (.inr 5) a0) (hf_v0 : jfI V0 a0 5 0 v0) (hr_gr : jfR V0 a0 5 1 gr) (hr_mn : jfR V0 a0 5 2 mn) (hr_sp : jfR V0 a0 5 3 sp) (hr_rw : jfR V0 a0 5 4 rw) (hr_px : jfR V0 a0 5 6 px) (hr_py : jfR V0 a0 5 7 py) (hr_pz : jfR V0 a0 5 8 pz) (ha_GA : V0 gr = some (.inl (14, 16, .inl GA))) (ha_MN : V0 mn = some (.inl (15, 16, .inl MN))) (ha_SP : V0 sp = some (.inl (16, 960, .inl SP))) (ha_RW : V0 rw = some (.inl (17, 120, .inl RW))) (ha_PX : V0 px = some (.inl (18, 121, .inl PX))) (ha_PY : V0 py = some (.inl (19, 121, .inl PY))) (ha_PZ : V0 pz = some (.inl (20, 121, .inl PZ))) (hp0 : ¬ (0 ≤ x1.toInt ∧ x1.toInt < v0.toInt ∧ 0 ≤ x2.toInt ∧ x2.toInt ≤ (MN x1.toInt.toNat).toInt)) : jTot tS mX7_back d [.ref a0, .int x1, .int x2] V0 0 0 (fun r V => (fun r _ => ∃ y : Int32, r = some (.int y) ∧ ((-2147483648) ≤ y.toInt) ∧ (y.toInt ≤ 2147483647) ∧ (y.toInt = -2)) r V ∧ V = V0) := by
  refine jTot.of_J [some (.ref a0), some (.int x1), some (.int x2)] moX7_back (Nat.le_of_ble_eq_true rfl) rfl ?_
  have hrx1 := j_rng x1
  have hrx2 := j_rng x2
  have he : jeff [] V0 V0 := jeff.refl _ _
  obtain ⟨fs_a0, hO_a0, hK_a0⟩ := WT_obj hW id ha0
  have hF_v0 := hf_v0.get hO_a0
  have hrv0 : 0 ≤ v0.toInt ∧ v0.toInt ≤ 16 := jok_rngI hK_a0 rfl hF_v0
  have hF_gr := hr_gr.get hO_a0
  obtain ⟨w_gr, hFq_gr, b_gr, hbq_gr, hb_gr⟩ := hK_a0.2 1 (.inr (some (.inl 14))) rfl
  cases hF_gr.symm.trans (hFq_gr.trans (congrArg some hbq_gr))
  have hF_mn := hr_mn.get hO_a0
  obtain ⟨w_mn, hFq_mn, b_mn, hbq_mn, hb_mn⟩ := hK_a0.2 2 (.inr (some (.inl 15))) rfl
  cases hF_mn.symm.trans (hFq_mn.trans (congrArg some hbq_mn))
  have hF_sp := hr_sp.get hO_a0
  obtain ⟨w_sp, hFq_sp, b_sp, hbq_sp, hb_sp⟩ := hK_a0.2 3 (.inr (some (.inl 16))) rfl
  cases hF_sp.symm.trans (hFq_sp.trans (congrArg some hbq_sp))
  have hF_rw := hr_rw.get hO_a0
  obtain ⟨w_rw, hFq_rw, b_rw, hbq_rw, hb_rw⟩ := hK_a0.2 4 (.inr (some (.inl 17))) rfl
  cases hF_rw.symm.trans (hFq_rw.trans (congrArg some hbq_rw))
  have hF_px := hr_px.get hO_a0
  obtain ⟨w_px, hFq_px, b_px, hbq_px, hb_px⟩ := hK_a0.2 6 (.inr (some (.inl 18))) rfl
  cases hF_px.symm.trans (hFq_px.trans (congrArg some hbq_px))
  have hF_py := hr_py.get hO_a0
  obtain ⟨w_py, hFq_py, b_py, hbq_py, hb_py⟩ := hK_a0.2 7 (.inr (some (.inl 19))) rfl
  cases hF_py.symm.trans (hFq_py.trans (congrArg some hbq_py))
  have hF_pz := hr_pz.get hO_a0
  obtain ⟨w_pz, hFq_pz, b_pz, hbq_pz, hb_pz⟩ := hK_a0.2 8 (.inr (some (.inl 20))) rfl
  cases hF_pz.symm.trans (hFq_pz.trans (congrArg some hbq_pz))
  obtain ⟨hN_GA, hv_GA⟩ := WT_rngI (r := (0, 3)) hW id rfl ha_GA
  clear hN_GA
  obtain ⟨hN_MN, hv_MN⟩ := WT_rngI (r := (0, 60)) hW id rfl ha_MN
  clear hN_MN
  obtain ⟨hN_SP, hv_SP⟩ := WT_rngI (r := ((-2147483648), 2147483647)) hW id rfl ha_SP
  clear hN_SP
  obtain ⟨hN_RW, hv_RW⟩ := WT_rngI (r := ((-2147483648), 2147483647)) hW id rfl ha_RW
  clear hN_RW
  obtain ⟨hN_PX, hv_PX⟩ := WT_rngI (r := ((-2147483648), 2147483647)) hW id rfl ha_PX
  clear hN_PX
  obtain ⟨hN_PY, hv_PY⟩ := WT_rngI (r := ((-2147483648), 2147483647)) hW id rfl ha_PY
  clear hN_PY
  obtain ⟨hN_PZ, hv_PZ⟩ := WT_rngI (r := ((-2147483648), 2147483647)) hW id rfl ha_PZ
  clear hN_PZ
  refine J_aload_n dX7_back_0 rfl ?_
  refine J_iload_n dX7_back_1 rfl ?_
  refine Jw_callV1 (q9 := (RX7, TX7, 34)) moX7_isWalk jw_ml_X7_130 jw_im_X7_isWalk jw_se_X7_isWalk ha0 rfl rfl dX7_back_2 (w_X7_isWalk_z (d - 1) _ a0 x1 v0 (by omega) hW  ha0 ⟨_, hO_a0, hF_v0⟩) (by omega) (Nat.zero_le _) (Nat.zero_le _) (Nat.le_of_ble_eq_true rfl) (fun r2 V2 h2 => ?_)
  obtain ⟨⟨y2, rfl, hl2, hh2, hP2_0⟩, hE2⟩ := h2
  have hE2 := hE2.symm
  subst hE2
  refine Jz_if_eq (tgt := 22) jEq.rf dX7_back_5 (by decide) (fun c5 => ?_) (fun c5 => ?_)
  · refine Jz_bipush (-2) dX7_back_22 (by decide) (fun y22 he22 => ?_)
    exact J_ret (r := some (.int _)) dX7_back_24 ⟨rfl, _, rfl, rfl⟩ (⟨⟨_, rfl, (j_rng _).1, (j_rng _).2, (by (try simp only [he22.eq, true_and, and_true]) <;> omega)⟩, rfl⟩)
  · refine J_iload_n dX7_back_8 rfl ?_
    refine Jz_iconst 0 dX7_back_9 (by decide) (fun y9 he9 => ?_)
    refine J_aload_n dX7_back_10 rfl ?_
    refine J_get jf_X7_13 dX7_back_11 hO_a0 hF_mn ?_
    refine J_iload_n dX7_back_14 rfl ?_
    refine Jz_iald (r := (0, 60)) jEq.rf dX7_back_15 ha_MN rfl hv_MN (by omega) (by omega) (fun y15 hf15 hl15 hh15 => ?_)
    dsimp only at hl15 hh15
    have hq15 : (MN x1.toInt.toNat).toInt = y15.toInt := by rw [hf15]
    refine J_callS3 moX7_in jw_ml_X7_105 jw_st_X7_in dX7_back_16 (w_X7_in (d - 1) _ x2 y9 y15 (by omega)   ) (by omega) (Nat.zero_le _) (Nat.zero_le _) (Nat.le_of_ble_eq_true rfl) (fun r16 V16 h16 => ?_)
    obtain ⟨⟨y16, rfl, hl16, hh16, hI16_0, hI16_1⟩, hE16⟩ := h16
    have hE16 := hE16.symm
    subst hE16
    refine Jz_if_ne (tgt := 25) jEq.rf dX7_back_19 (by decide) (fun c19 => ?_) (fun c19 => ?_)
    · have q19_0 := hI16_0.of (by omega)
      try simp only [he9.eq] at q19_0
      exact False.elim (by omega)
    · have q19_1 := hI16_1.of (by omega)
      try simp only [he9.eq] at q19_1
      refine Jz_bipush (-2) dX7_back_22 (by decide) (fun y22 he22 => ?_)
      exact J_ret (r := some (.int _)) dX7_back_24 ⟨rfl, _, rfl, rfl⟩ (⟨⟨_, rfl, (j_rng _).1, (j_rng _).2, (by (try simp only [he22.eq, true_and, and_true]) <;> omega)⟩, rfl⟩)
set_option maxRecDepth 100000 in
set_option maxHeartbeats 8000000 in
theorem w_X7_back_ok {tS : jTS} (d : Nat) (V0 : jH) (a0 : Nat) (x1 : Int32) (x2 : Int32) (v0 : Int32) (gr : Nat) (mn : Nat) (sp : Nat) (rw : Nat) (px : Nat) (py : Nat) (pz : Nat) (GA : Nat → Int32) (MN : Nat → Int32) (SP : Nat → Int32) (RW : Nat → Int32) (PX : Nat → Int32) (PY : Nat → Int32) (PZ : Nat → Int32) (hd : 2 ≤ d) (hW : WT V0) (ha0 : jis V0 (.inr 5) a0) (hf_v0 : jfI V0 a0 5 0 v0) (hr_gr : jfR V0 a0 5 1 gr) (hr_mn : jfR V0 a0 5 2 mn) (hr_sp : jfR V0 a0 5 3 sp) (hr_rw : jfR V0 a0 5 4 rw) (hr_px : jfR V0 a0 5 6 px) (hr_py : jfR V0 a0 5 7 py) (hr_pz : jfR V0 a0 5 8 pz) (ha_GA : V0 gr = some (.inl (14, 16, .inl GA))) (ha_MN : V0 mn = some (.inl (15, 16, .inl MN))) (ha_SP : V0 sp = some (.inl (16, 960, .inl SP))) (ha_RW : V0 rw = some (.inl (17, 120, .inl RW))) (ha_PX : V0 px = some (.inl (18, 121, .inl PX))) (ha_PY : V0 py = some (.inl (19, 121, .inl PY))) (ha_PZ : V0 pz = some (.inl (20, 121, .inl PZ))) (hp0 : 0 ≤ x1.toInt) (hp1 : x1.toInt < v0.toInt) (hp2 : 0 ≤ x2.toInt) (hp3 : x2.toInt ≤ (MN x1.toInt.toNat).toInt) : jTot tS mX7_back d [.ref a0, .int x1, .int x2] V0 0 0 (fun r V => (jPost [.inl 15] V0 (fun r _ => ∃ y : Int32, r = some (.int y) ∧ ((-2147483648) ≤ y.toInt) ∧ (y.toInt ≤ 2147483647) ∧ (y.toInt = (MN x1.toInt.toNat).toInt - x2.toInt))) r V ∧ (∃ M2 : Nat → Int32, V mn = some (.inl (15, 16, .inl M2)) ∧ (M2 x1.toInt.toNat).toInt = (MN x1.toInt.toNat).toInt - x2.toInt ∧ ∀ j : Nat, j ≠ x1.toInt.toNat → M2 j = MN j)) := by
  refine jTot.of_J [some (.ref a0), some (.int x1), some (.int x2)] moX7_back (Nat.le_of_ble_eq_true rfl) rfl ?_
  have hrx1 := j_rng x1
  have hrx2 := j_rng x2
  have he : jeff [.inl 15] V0 V0 := jeff.refl _ _
  obtain ⟨fs_a0, hO_a0, hK_a0⟩ := WT_obj hW id ha0
  have hF_v0 := hf_v0.get hO_a0
  have hrv0 : 0 ≤ v0.toInt ∧ v0.toInt ≤ 16 := jok_rngI hK_a0 rfl hF_v0
  have hF_gr := hr_gr.get hO_a0
  obtain ⟨w_gr, hFq_gr, b_gr, hbq_gr, hb_gr⟩ := hK_a0.2 1 (.inr (some (.inl 14))) rfl
  cases hF_gr.symm.trans (hFq_gr.trans (congrArg some hbq_gr))
  have hF_mn := hr_mn.get hO_a0
  obtain ⟨w_mn, hFq_mn, b_mn, hbq_mn, hb_mn⟩ := hK_a0.2 2 (.inr (some (.inl 15))) rfl
  cases hF_mn.symm.trans (hFq_mn.trans (congrArg some hbq_mn))
  have hF_sp := hr_sp.get hO_a0
  obtain ⟨w_sp, hFq_sp, b_sp, hbq_sp, hb_sp⟩ := hK_a0.2 3 (.inr (some (.inl 16))) rfl
  cases hF_sp.symm.trans (hFq_sp.trans (congrArg some hbq_sp))
  have hF_rw := hr_rw.get hO_a0
  obtain ⟨w_rw, hFq_rw, b_rw, hbq_rw, hb_rw⟩ := hK_a0.2 4 (.inr (some (.inl 17))) rfl
  cases hF_rw.symm.trans (hFq_rw.trans (congrArg some hbq_rw))
  have hF_px := hr_px.get hO_a0
  obtain ⟨w_px, hFq_px, b_px, hbq_px, hb_px⟩ := hK_a0.2 6 (.inr (some (.inl 18))) rfl
  cases hF_px.symm.trans (hFq_px.trans (congrArg some hbq_px))
  have hF_py := hr_py.get hO_a0
  obtain ⟨w_py, hFq_py, b_py, hbq_py, hb_py⟩ := hK_a0.2 7 (.inr (some (.inl 19))) rfl
  cases hF_py.symm.trans (hFq_py.trans (congrArg some hbq_py))
  have hF_pz := hr_pz.get hO_a0
  obtain ⟨w_pz, hFq_pz, b_pz, hbq_pz, hb_pz⟩ := hK_a0.2 8 (.inr (some (.inl 20))) rfl
  cases hF_pz.symm.trans (hFq_pz.trans (congrArg some hbq_pz))
  obtain ⟨hN_GA, hv_GA⟩ := WT_rngI (r := (0, 3)) hW id rfl ha_GA
  clear hN_GA
  obtain ⟨hN_MN, hv_MN⟩ := WT_rngI (r := (0, 60)) hW id rfl ha_MN
  clear hN_MN
  obtain ⟨hN_SP, hv_SP⟩ := WT_rngI (r := ((-2147483648), 2147483647)) hW id rfl ha_SP
  clear hN_SP
  obtain ⟨hN_RW, hv_RW⟩ := WT_rngI (r := ((-2147483648), 2147483647)) hW id rfl ha_RW
  clear hN_RW
  obtain ⟨hN_PX, hv_PX⟩ := WT_rngI (r := ((-2147483648), 2147483647)) hW id rfl ha_PX
  clear hN_PX
  obtain ⟨hN_PY, hv_PY⟩ := WT_rngI (r := ((-2147483648), 2147483647)) hW id rfl ha_PY
  clear hN_PY
  obtain ⟨hN_PZ, hv_PZ⟩ := WT_rngI (r := ((-2147483648), 2147483647)) hW id rfl ha_PZ
  clear hN_PZ
  refine J_aload_n dX7_back_0 rfl ?_
  refine J_iload_n dX7_back_1 rfl ?_
  refine Jw_callV1 (q9 := (RX7, TX7, 34)) moX7_isWalk jw_ml_X7_130 jw_im_X7_isWalk jw_se_X7_isWalk ha0 rfl rfl dX7_back_2 (w_X7_isWalk_z (d - 1) _ a0 x1 v0 (by omega) hW  ha0 ⟨_, hO_a0, hF_v0⟩) (by omega) (Nat.zero_le _) (Nat.zero_le _) (Nat.le_of_ble_eq_true rfl) (fun r2 V2 h2 => ?_)
  obtain ⟨⟨y2, rfl, hl2, hh2, hP2_0⟩, hE2⟩ := h2
  have hE2 := hE2.symm
  subst hE2
  refine Jz_if_eq (tgt := 22) jEq.rf dX7_back_5 (by decide) (fun c5 => ?_) (fun c5 => ?_)
  · exact False.elim (by omega)
  · refine J_iload_n dX7_back_8 rfl ?_
    refine Jz_iconst 0 dX7_back_9 (by decide) (fun y9 he9 => ?_)
    refine J_aload_n dX7_back_10 rfl ?_
    refine J_get jf_X7_13 dX7_back_11 hO_a0 hF_mn ?_
    refine J_iload_n dX7_back_14 rfl ?_
    refine Jz_iald (r := (0, 60)) jEq.rf dX7_back_15 ha_MN rfl hv_MN (by omega) (by omega) (fun y15 hf15 hl15 hh15 => ?_)
    dsimp only at hl15 hh15
    have hq15 : (MN x1.toInt.toNat).toInt = y15.toInt := by rw [hf15]
    refine J_callS3 moX7_in jw_ml_X7_105 jw_st_X7_in dX7_back_16 (w_X7_in (d - 1) _ x2 y9 y15 (by omega)   ) (by omega) (Nat.zero_le _) (Nat.zero_le _) (Nat.le_of_ble_eq_true rfl) (fun r16 V16 h16 => ?_)
    obtain ⟨⟨y16, rfl, hl16, hh16, hI16_0, hI16_1⟩, hE16⟩ := h16
    have hE16 := hE16.symm
    subst hE16
    refine Jz_if_ne (tgt := 25) jEq.rf dX7_back_19 (by decide) (fun c19 => ?_) (fun c19 => ?_)
    · have q19_0 := hI16_0.of (by omega)
      try simp only [he9.eq] at q19_0
      refine J_aload_n dX7_back_25 rfl ?_
      refine J_get jf_X7_13 dX7_back_26 hO_a0 hF_mn ?_
      refine J_iload_n dX7_back_29 rfl ?_
      refine J_dup2 dX7_back_30 rfl rfl ?_
      refine Jz_iald (r := (0, 60)) jEq.rf dX7_back_31 ha_MN rfl hv_MN (by omega) (by omega) (fun y31 hf31 hl31 hh31 => ?_)
      dsimp only at hl31 hh31
      clear hl31 hh31
      have he31 : jEq y31.toInt (y15.toInt) := by rw [← hf31, hf15]; exact jEq.rf
      refine J_iload_n dX7_back_32 rfl ?_
      refine Jz_isub he31 jEq.rf dX7_back_33 (by omega) (by omega) (fun y33 he33 => ?_)
      refine Jz_iast (r := (0, 60)) jEq.rf he33 hW id dX7_back_34 ha_MN rfl rfl (by omega) (by omega) (by omega) (by omega) (fun V34 G34 hW hx34 hA34 hp34 ho34 => ?_)
      obtain ⟨hN34, hv34⟩ := WT_rngI (r := (0, 60)) hW id rfl hA34
      clear hN34
      have he := he.trans (hx34.sub (jsub_of rfl))
      have ha0 := ha0.mono hx34.1
      have hb_gr := hb_gr.mono hx34.1
      have hb_mn := hb_mn.mono hx34.1
      have hb_sp := hb_sp.mono hx34.1
      have hb_rw := hb_rw.mono hx34.1
      have hb_px := hb_px.mono hx34.1
      have hb_py := hb_py.mono hx34.1
      have hb_pz := hb_pz.mono hx34.1
      have hO_a0 := hx34.2 _ _ hO_a0 (jnot_of rfl)
      have hK_a0 := hK_a0.mono hx34.1
      have ha_GA := hx34.2 _ _ ha_GA (jnot_of rfl)
      have ha_SP := hx34.2 _ _ ha_SP (jnot_of rfl)
      have ha_RW := hx34.2 _ _ ha_RW (jnot_of rfl)
      have ha_PX := hx34.2 _ _ ha_PX (jnot_of rfl)
      have ha_PY := hx34.2 _ _ ha_PY (jnot_of rfl)
      have ha_PZ := hx34.2 _ _ ha_PZ (jnot_of rfl)
      refine J_aload_n dX7_back_35 rfl ?_
      refine J_get jf_X7_13 dX7_back_36 hO_a0 hF_mn ?_
      refine J_iload_n dX7_back_39 rfl ?_
      refine Jz_iald (r := (0, 60)) jEq.rf dX7_back_40 hA34 rfl hv34 (by omega) (by omega) (fun y40 hf40 hl40 hh40 => ?_)
      dsimp only at hl40 hh40
      clear hl40 hh40
      have he40 : jEq y40.toInt (y15.toInt - x2.toInt) := by rw [← hf40, hp34]; exact he33
      exact J_ret (r := some (.int _)) dX7_back_41 ⟨rfl, _, rfl, rfl⟩ (⟨⟨hW, he, ⟨_, rfl, (j_rng _).1, (j_rng _).2, (by (try simp only [he40.eq, true_and, and_true]) <;> omega)⟩⟩, ⟨G34, hA34, (by rw [hp34, he33.eq]; omega), ho34⟩⟩)
    · have q19_1 := hI16_1.of (by omega)
      try simp only [he9.eq] at q19_1
      exact False.elim (by omega)
set_option maxRecDepth 100000 in
set_option maxHeartbeats 8000000 in
theorem w_X7_pivot_bad {tS : jTS} (d : Nat) (V0 : jH) (a0 : Nat) (x1 : Int32) (x2 : Int32) (x3 : Int32) (v0 : Int32) (gr : Nat) (mn : Nat) (sp : Nat) (rw : Nat) (px : Nat) (py : Nat) (pz : Nat) (GA : Nat → Int32) (MN : Nat → Int32) (SP : Nat → Int32) (RW : Nat → Int32) (PX : Nat → Int32) (PY : Nat → Int32) (PZ : Nat → Int32) (hd : 3 ≤ d) (hW : WT V0) (ha0 : jis V0 (.inr 5) a0) (hf_v0 : jfI V0 a0 5 0 v0) (hr_gr : jfR V0 a0 5 1 gr) (hr_mn : jfR V0 a0 5 2 mn) (hr_sp : jfR V0 a0 5 3 sp) (hr_rw : jfR V0 a0 5 4 rw) (hr_px : jfR V0 a0 5 6 px) (hr_py : jfR V0 a0 5 7 py) (hr_pz : jfR V0 a0 5 8 pz) (ha_GA : V0 gr = some (.inl (14, 16, .inl GA))) (ha_MN : V0 mn = some (.inl (15, 16, .inl MN))) (ha_SP : V0 sp = some (.inl (16, 960, .inl SP))) (ha_RW : V0 rw = some (.inl (17, 120, .inl RW))) (ha_PX : V0 px = some (.inl (18, 121, .inl PX))) (ha_PY : V0 py = some (.inl (19, 121, .inl PY))) (ha_PZ : V0 pz = some (.inl (20, 121, .inl PZ))) (hp0 : ¬ (0 ≤ x1.toInt ∧ x1.toInt < v0.toInt ∧ 0 ≤ x2.toInt ∧ x2.toInt ≤ (MN x1.toInt.toNat).toInt ∧ 0 ≤ x3.toInt ∧ x3.toInt < jtur (GA x1.toInt.toNat).toInt)) : jTot tS mX7_pivot d [.ref a0, .int x1, .int x2, .int x3] V0 0 0 (fun r V => (fun r _ => ∃ y : Int32, r = some (.int y) ∧ ((-2147483648) ≤ y.toInt) ∧ (y.toInt ≤ 2147483647) ∧ (y.toInt = -2)) r V ∧ V = V0) := by
  refine jTot.of_J [some (.ref a0), some (.int x1), some (.int x2), some (.int x3), none] moX7_pivot (Nat.le_of_ble_eq_true rfl) rfl ?_
  have hrx1 := j_rng x1
  have hrx2 := j_rng x2
  have hrx3 := j_rng x3
  have he : jeff [] V0 V0 := jeff.refl _ _
  obtain ⟨fs_a0, hO_a0, hK_a0⟩ := WT_obj hW id ha0
  have hF_v0 := hf_v0.get hO_a0
  have hrv0 : 0 ≤ v0.toInt ∧ v0.toInt ≤ 16 := jok_rngI hK_a0 rfl hF_v0
  have hF_gr := hr_gr.get hO_a0
  obtain ⟨w_gr, hFq_gr, b_gr, hbq_gr, hb_gr⟩ := hK_a0.2 1 (.inr (some (.inl 14))) rfl
  cases hF_gr.symm.trans (hFq_gr.trans (congrArg some hbq_gr))
  have hF_mn := hr_mn.get hO_a0
  obtain ⟨w_mn, hFq_mn, b_mn, hbq_mn, hb_mn⟩ := hK_a0.2 2 (.inr (some (.inl 15))) rfl
  cases hF_mn.symm.trans (hFq_mn.trans (congrArg some hbq_mn))
  have hF_sp := hr_sp.get hO_a0
  obtain ⟨w_sp, hFq_sp, b_sp, hbq_sp, hb_sp⟩ := hK_a0.2 3 (.inr (some (.inl 16))) rfl
  cases hF_sp.symm.trans (hFq_sp.trans (congrArg some hbq_sp))
  have hF_rw := hr_rw.get hO_a0
  obtain ⟨w_rw, hFq_rw, b_rw, hbq_rw, hb_rw⟩ := hK_a0.2 4 (.inr (some (.inl 17))) rfl
  cases hF_rw.symm.trans (hFq_rw.trans (congrArg some hbq_rw))
  have hF_px := hr_px.get hO_a0
  obtain ⟨w_px, hFq_px, b_px, hbq_px, hb_px⟩ := hK_a0.2 6 (.inr (some (.inl 18))) rfl
  cases hF_px.symm.trans (hFq_px.trans (congrArg some hbq_px))
  have hF_py := hr_py.get hO_a0
  obtain ⟨w_py, hFq_py, b_py, hbq_py, hb_py⟩ := hK_a0.2 7 (.inr (some (.inl 19))) rfl
  cases hF_py.symm.trans (hFq_py.trans (congrArg some hbq_py))
  have hF_pz := hr_pz.get hO_a0
  obtain ⟨w_pz, hFq_pz, b_pz, hbq_pz, hb_pz⟩ := hK_a0.2 8 (.inr (some (.inl 20))) rfl
  cases hF_pz.symm.trans (hFq_pz.trans (congrArg some hbq_pz))
  obtain ⟨hN_GA, hv_GA⟩ := WT_rngI (r := (0, 3)) hW id rfl ha_GA
  clear hN_GA
  obtain ⟨hN_MN, hv_MN⟩ := WT_rngI (r := (0, 60)) hW id rfl ha_MN
  clear hN_MN
  obtain ⟨hN_SP, hv_SP⟩ := WT_rngI (r := ((-2147483648), 2147483647)) hW id rfl ha_SP
  clear hN_SP
  obtain ⟨hN_RW, hv_RW⟩ := WT_rngI (r := ((-2147483648), 2147483647)) hW id rfl ha_RW
  clear hN_RW
  obtain ⟨hN_PX, hv_PX⟩ := WT_rngI (r := ((-2147483648), 2147483647)) hW id rfl ha_PX
  clear hN_PX
  obtain ⟨hN_PY, hv_PY⟩ := WT_rngI (r := ((-2147483648), 2147483647)) hW id rfl ha_PY
  clear hN_PY
  obtain ⟨hN_PZ, hv_PZ⟩ := WT_rngI (r := ((-2147483648), 2147483647)) hW id rfl ha_PZ
  clear hN_PZ
  refine J_aload_n dX7_pivot_0 rfl ?_
  refine J_iload_n dX7_pivot_1 rfl ?_
  refine Jw_callV1 (q9 := (RX7, TX7, 34)) moX7_isWalk jw_ml_X7_130 jw_im_X7_isWalk jw_se_X7_isWalk ha0 rfl rfl dX7_pivot_2 (w_X7_isWalk_z (d - 1) _ a0 x1 v0 (by omega) hW  ha0 ⟨_, hO_a0, hF_v0⟩) (by omega) (Nat.zero_le _) (Nat.zero_le _) (Nat.le_of_ble_eq_true rfl) (fun r2 V2 h2 => ?_)
  obtain ⟨⟨y2, rfl, hl2, hh2, hP2_0⟩, hE2⟩ := h2
  have hE2 := hE2.symm
  subst hE2
  refine Jz_if_eq (tgt := 41) jEq.rf dX7_pivot_5 (by decide) (fun c5 => ?_) (fun c5 => ?_)
  · refine Jz_bipush (-2) dX7_pivot_41 (by decide) (fun y41 he41 => ?_)
    exact J_ret (r := some (.int _)) dX7_pivot_43 ⟨rfl, _, rfl, rfl⟩ (⟨⟨_, rfl, (j_rng _).1, (j_rng _).2, (by (try simp only [he41.eq, true_and, and_true]) <;> omega)⟩, rfl⟩)
  · refine J_iload_n dX7_pivot_8 rfl ?_
    refine Jz_iconst 0 dX7_pivot_9 (by decide) (fun y9 he9 => ?_)
    refine J_aload_n dX7_pivot_10 rfl ?_
    refine J_get jf_X7_13 dX7_pivot_11 hO_a0 hF_mn ?_
    refine J_iload_n dX7_pivot_14 rfl ?_
    refine Jz_iald (r := (0, 60)) jEq.rf dX7_pivot_15 ha_MN rfl hv_MN (by omega) (by omega) (fun y15 hf15 hl15 hh15 => ?_)
    dsimp only at hl15 hh15
    have hq15 : (MN x1.toInt.toNat).toInt = y15.toInt := by rw [hf15]
    refine J_callS3 moX7_in jw_ml_X7_105 jw_st_X7_in dX7_pivot_16 (w_X7_in (d - 1) _ x2 y9 y15 (by omega)   ) (by omega) (Nat.zero_le _) (Nat.zero_le _) (Nat.le_of_ble_eq_true rfl) (fun r16 V16 h16 => ?_)
    obtain ⟨⟨y16, rfl, hl16, hh16, hI16_0, hI16_1⟩, hE16⟩ := h16
    have hE16 := hE16.symm
    subst hE16
    refine Jz_if_eq (tgt := 41) jEq.rf dX7_pivot_19 (by decide) (fun c19 => ?_) (fun c19 => ?_)
    · have q19_1 := hI16_1.of (by omega)
      try simp only [he9.eq] at q19_1
      refine Jz_bipush (-2) dX7_pivot_41 (by decide) (fun y41 he41 => ?_)
      exact J_ret (r := some (.int _)) dX7_pivot_43 ⟨rfl, _, rfl, rfl⟩ (⟨⟨_, rfl, (j_rng _).1, (j_rng _).2, (by (try simp only [he41.eq, true_and, and_true]) <;> omega)⟩, rfl⟩)
    · have q19_0 := hI16_0.of (by omega)
      try simp only [he9.eq] at q19_0
      refine J_iload_n dX7_pivot_22 rfl ?_
      refine Jz_iconst 0 dX7_pivot_23 (by decide) (fun y23 he23 => ?_)
      refine J_aload_n dX7_pivot_24 rfl ?_
      refine J_get jf_X7_7 dX7_pivot_25 hO_a0 hF_gr ?_
      refine J_iload_n dX7_pivot_28 rfl ?_
      refine Jz_iald (r := (0, 3)) jEq.rf dX7_pivot_29 ha_GA rfl hv_GA (by omega) (by omega) (fun y29 hf29 hl29 hh29 => ?_)
      dsimp only at hl29 hh29
      have hq29 : (GA x1.toInt.toNat).toInt = y29.toInt := by rw [hf29]
      rw [hq29] at hp0
      refine J_callS1 moX7_turns jw_ml_X7_143 jw_st_X7_turns dX7_pivot_30 (w_X7_turns (d - 1) _ y29 (by omega)   ) (by omega) (Nat.zero_le _) (Nat.zero_le _) (Nat.le_of_ble_eq_true rfl) (fun r30 V30 h30 => ?_)
      obtain ⟨⟨y30, rfl, hl30, hh30, hP30_0⟩, hE30⟩ := h30
      have hE30 := hE30.symm
      subst hE30
      have hz30 : jEq y30.toInt (jtur (y29.toInt)) := hP30_0
      simp only [hP30_0] at hl30 hh30
      clear hP30_0
      refine Jz_iconst 1 dX7_pivot_33 (by decide) (fun y33 he33 => ?_)
      refine Jz_isub hz30 he33 dX7_pivot_34 (by omega) (by omega) (fun y34 he34 => ?_)
      refine J_callS3 moX7_in jw_ml_X7_105 jw_st_X7_in dX7_pivot_35 (w_X7_in (d - 1) _ x3 y23 y34 (by omega)   ) (by omega) (Nat.zero_le _) (Nat.zero_le _) (Nat.le_of_ble_eq_true rfl) (fun r35 V35 h35 => ?_)
      obtain ⟨⟨y35, rfl, hl35, hh35, hI35_0, hI35_1⟩, hE35⟩ := h35
      have hE35 := hE35.symm
      subst hE35
      refine Jz_if_ne (tgt := 44) jEq.rf dX7_pivot_38 (by decide) (fun c38 => ?_) (fun c38 => ?_)
      · have q38_0 := hI35_0.of (by omega)
        try simp only [he23.eq, he34.eq] at q38_0
        exact False.elim (by omega)
      · have q38_1 := hI35_1.of (by omega)
        try simp only [he23.eq, he34.eq] at q38_1
        refine Jz_bipush (-2) dX7_pivot_41 (by decide) (fun y41 he41 => ?_)
        exact J_ret (r := some (.int _)) dX7_pivot_43 ⟨rfl, _, rfl, rfl⟩ (⟨⟨_, rfl, (j_rng _).1, (j_rng _).2, (by (try simp only [he41.eq, true_and, and_true]) <;> omega)⟩, rfl⟩)
set_option maxRecDepth 100000 in
set_option maxHeartbeats 8000000 in
theorem w_X7_pivot_no {tS : jTS} (d : Nat) (V0 : jH) (a0 : Nat) (x1 : Int32) (x2 : Int32) (x3 : Int32) (v0 : Int32) (gr : Nat) (mn : Nat) (sp : Nat) (rw : Nat) (px : Nat) (py : Nat) (pz : Nat) (GA : Nat → Int32) (MN : Nat → Int32) (SP : Nat → Int32) (RW : Nat → Int32) (PX : Nat → Int32) (PY : Nat → Int32) (PZ : Nat → Int32) (hd : 3 ≤ d) (hW : WT V0) (ha0 : jis V0 (.inr 5) a0) (hf_v0 : jfI V0 a0 5 0 v0) (hr_gr : jfR V0 a0 5 1 gr) (hr_mn : jfR V0 a0 5 2 mn) (hr_sp : jfR V0 a0 5 3 sp) (hr_rw : jfR V0 a0 5 4 rw) (hr_px : jfR V0 a0 5 6 px) (hr_py : jfR V0 a0 5 7 py) (hr_pz : jfR V0 a0 5 8 pz) (ha_GA : V0 gr = some (.inl (14, 16, .inl GA))) (ha_MN : V0 mn = some (.inl (15, 16, .inl MN))) (ha_SP : V0 sp = some (.inl (16, 960, .inl SP))) (ha_RW : V0 rw = some (.inl (17, 120, .inl RW))) (ha_PX : V0 px = some (.inl (18, 121, .inl PX))) (ha_PY : V0 py = some (.inl (19, 121, .inl PY))) (ha_PZ : V0 pz = some (.inl (20, 121, .inl PZ))) (hp0 : 0 ≤ x1.toInt) (hp1 : x1.toInt < v0.toInt) (hp2 : 0 ≤ x2.toInt) (hp3 : x2.toInt ≤ (MN x1.toInt.toNat).toInt) (hp4 : 0 ≤ x3.toInt) (hp5 : x3.toInt < jtur (GA x1.toInt.toNat).toInt) (hp6 : ∀ j : Nat, (j : Int) < (MN x1.toInt.toNat).toInt → 0 ≤ (SP (60 * x1.toInt.toNat + j)).toInt ∧ (SP (60 * x1.toInt.toNat + j)).toInt < jdir (GA x1.toInt.toNat).toInt) (hp7 : ¬ jav (GA x1.toInt.toNat).toInt (jTp (GA x1.toInt.toNat).toInt x3.toInt x2.toInt (fun q => (SP (60 * x1.toInt.toNat + q)).toInt)) (MN x1.toInt.toNat).toInt.toNat) : jTot tS mX7_pivot d [.ref a0, .int x1, .int x2, .int x3] V0 0 0 (fun r V => (jPost [.inr 5, .inl 17, .inl 18, .inl 19, .inl 20] V0 (fun r _ => ∃ y : Int32, r = some (.int y) ∧ ((-2147483648) ≤ y.toInt) ∧ (y.toInt ≤ 2147483647) ∧ (y.toInt = -3))) r V ∧ jkc 5 [0, 23, 24] V0 V) := by
  refine jTot.of_J [some (.ref a0), some (.int x1), some (.int x2), some (.int x3), none] moX7_pivot (Nat.le_of_ble_eq_true rfl) rfl ?_
  have hrx1 := j_rng x1
  have hrx2 := j_rng x2
  have hrx3 := j_rng x3
  have he : jeff [.inr 5, .inl 17, .inl 18, .inl 19, .inl 20] V0 V0 := jeff.refl _ _
  have hkp : jkc 5 [0, 23, 24] V0 V0 := jkc.rf
  obtain ⟨fs_a0, hO_a0, hK_a0⟩ := WT_obj hW id ha0
  have hF_v0 := hf_v0.get hO_a0
  have hrv0 : 0 ≤ v0.toInt ∧ v0.toInt ≤ 16 := jok_rngI hK_a0 rfl hF_v0
  have hF_gr := hr_gr.get hO_a0
  obtain ⟨w_gr, hFq_gr, b_gr, hbq_gr, hb_gr⟩ := hK_a0.2 1 (.inr (some (.inl 14))) rfl
  cases hF_gr.symm.trans (hFq_gr.trans (congrArg some hbq_gr))
  have hF_mn := hr_mn.get hO_a0
  obtain ⟨w_mn, hFq_mn, b_mn, hbq_mn, hb_mn⟩ := hK_a0.2 2 (.inr (some (.inl 15))) rfl
  cases hF_mn.symm.trans (hFq_mn.trans (congrArg some hbq_mn))
  have hF_sp := hr_sp.get hO_a0
  obtain ⟨w_sp, hFq_sp, b_sp, hbq_sp, hb_sp⟩ := hK_a0.2 3 (.inr (some (.inl 16))) rfl
  cases hF_sp.symm.trans (hFq_sp.trans (congrArg some hbq_sp))
  have hF_rw := hr_rw.get hO_a0
  obtain ⟨w_rw, hFq_rw, b_rw, hbq_rw, hb_rw⟩ := hK_a0.2 4 (.inr (some (.inl 17))) rfl
  cases hF_rw.symm.trans (hFq_rw.trans (congrArg some hbq_rw))
  have hF_px := hr_px.get hO_a0
  obtain ⟨w_px, hFq_px, b_px, hbq_px, hb_px⟩ := hK_a0.2 6 (.inr (some (.inl 18))) rfl
  cases hF_px.symm.trans (hFq_px.trans (congrArg some hbq_px))
  have hF_py := hr_py.get hO_a0
  obtain ⟨w_py, hFq_py, b_py, hbq_py, hb_py⟩ := hK_a0.2 7 (.inr (some (.inl 19))) rfl
  cases hF_py.symm.trans (hFq_py.trans (congrArg some hbq_py))
  have hF_pz := hr_pz.get hO_a0
  obtain ⟨w_pz, hFq_pz, b_pz, hbq_pz, hb_pz⟩ := hK_a0.2 8 (.inr (some (.inl 20))) rfl
  cases hF_pz.symm.trans (hFq_pz.trans (congrArg some hbq_pz))
  obtain ⟨hN_GA, hv_GA⟩ := WT_rngI (r := (0, 3)) hW id rfl ha_GA
  clear hN_GA
  obtain ⟨hN_MN, hv_MN⟩ := WT_rngI (r := (0, 60)) hW id rfl ha_MN
  clear hN_MN
  obtain ⟨hN_SP, hv_SP⟩ := WT_rngI (r := ((-2147483648), 2147483647)) hW id rfl ha_SP
  clear hN_SP
  obtain ⟨hN_RW, hv_RW⟩ := WT_rngI (r := ((-2147483648), 2147483647)) hW id rfl ha_RW
  clear hN_RW
  obtain ⟨hN_PX, hv_PX⟩ := WT_rngI (r := ((-2147483648), 2147483647)) hW id rfl ha_PX
  clear hN_PX
  obtain ⟨hN_PY, hv_PY⟩ := WT_rngI (r := ((-2147483648), 2147483647)) hW id rfl ha_PY
  clear hN_PY
  obtain ⟨hN_PZ, hv_PZ⟩ := WT_rngI (r := ((-2147483648), 2147483647)) hW id rfl ha_PZ
  clear hN_PZ
  refine J_aload_n dX7_pivot_0 rfl ?_
  refine J_iload_n dX7_pivot_1 rfl ?_
  refine Jw_callV1 (q9 := (RX7, TX7, 34)) moX7_isWalk jw_ml_X7_130 jw_im_X7_isWalk jw_se_X7_isWalk ha0 rfl rfl dX7_pivot_2 (w_X7_isWalk_z (d - 1) _ a0 x1 v0 (by omega) hW  ha0 ⟨_, hO_a0, hF_v0⟩) (by omega) (Nat.zero_le _) (Nat.zero_le _) (Nat.le_of_ble_eq_true rfl) (fun r2 V2 h2 => ?_)
  obtain ⟨⟨y2, rfl, hl2, hh2, hP2_0⟩, hE2⟩ := h2
  have hE2 := hE2.symm
  subst hE2
  refine Jz_if_eq (tgt := 41) jEq.rf dX7_pivot_5 (by decide) (fun c5 => ?_) (fun c5 => ?_)
  · exact False.elim (by omega)
  · refine J_iload_n dX7_pivot_8 rfl ?_
    refine Jz_iconst 0 dX7_pivot_9 (by decide) (fun y9 he9 => ?_)
    refine J_aload_n dX7_pivot_10 rfl ?_
    refine J_get jf_X7_13 dX7_pivot_11 hO_a0 hF_mn ?_
    refine J_iload_n dX7_pivot_14 rfl ?_
    refine Jz_iald (r := (0, 60)) jEq.rf dX7_pivot_15 ha_MN rfl hv_MN (by omega) (by omega) (fun y15 hf15 hl15 hh15 => ?_)
    dsimp only at hl15 hh15
    have hq15 : (MN x1.toInt.toNat).toInt = y15.toInt := by rw [hf15]
    refine J_callS3 moX7_in jw_ml_X7_105 jw_st_X7_in dX7_pivot_16 (w_X7_in (d - 1) _ x2 y9 y15 (by omega)   ) (by omega) (Nat.zero_le _) (Nat.zero_le _) (Nat.le_of_ble_eq_true rfl) (fun r16 V16 h16 => ?_)
    obtain ⟨⟨y16, rfl, hl16, hh16, hI16_0, hI16_1⟩, hE16⟩ := h16
    have hE16 := hE16.symm
    subst hE16
    refine Jz_if_eq (tgt := 41) jEq.rf dX7_pivot_19 (by decide) (fun c19 => ?_) (fun c19 => ?_)
    · have q19_1 := hI16_1.of (by omega)
      try simp only [he9.eq] at q19_1
      exact False.elim (by omega)
    · have q19_0 := hI16_0.of (by omega)
      try simp only [he9.eq] at q19_0
      refine J_iload_n dX7_pivot_22 rfl ?_
      refine Jz_iconst 0 dX7_pivot_23 (by decide) (fun y23 he23 => ?_)
      refine J_aload_n dX7_pivot_24 rfl ?_
      refine J_get jf_X7_7 dX7_pivot_25 hO_a0 hF_gr ?_
      refine J_iload_n dX7_pivot_28 rfl ?_
      refine Jz_iald (r := (0, 3)) jEq.rf dX7_pivot_29 ha_GA rfl hv_GA (by omega) (by omega) (fun y29 hf29 hl29 hh29 => ?_)
      dsimp only at hl29 hh29
      have hq29 : (GA x1.toInt.toNat).toInt = y29.toInt := by rw [hf29]
      have hp5b := hp5
      rw [hq29] at hp5b
      refine J_callS1 moX7_turns jw_ml_X7_143 jw_st_X7_turns dX7_pivot_30 (w_X7_turns (d - 1) _ y29 (by omega)   ) (by omega) (Nat.zero_le _) (Nat.zero_le _) (Nat.le_of_ble_eq_true rfl) (fun r30 V30 h30 => ?_)
      obtain ⟨⟨y30, rfl, hl30, hh30, hP30_0⟩, hE30⟩ := h30
      have hE30 := hE30.symm
      subst hE30
      have hz30 : jEq y30.toInt (jtur (y29.toInt)) := hP30_0
      simp only [hP30_0] at hl30 hh30
      clear hP30_0
      refine Jz_iconst 1 dX7_pivot_33 (by decide) (fun y33 he33 => ?_)
      refine Jz_isub hz30 he33 dX7_pivot_34 (by omega) (by omega) (fun y34 he34 => ?_)
      refine J_callS3 moX7_in jw_ml_X7_105 jw_st_X7_in dX7_pivot_35 (w_X7_in (d - 1) _ x3 y23 y34 (by omega)   ) (by omega) (Nat.zero_le _) (Nat.zero_le _) (Nat.le_of_ble_eq_true rfl) (fun r35 V35 h35 => ?_)
      obtain ⟨⟨y35, rfl, hl35, hh35, hI35_0, hI35_1⟩, hE35⟩ := h35
      have hE35 := hE35.symm
      subst hE35
      refine Jz_if_ne (tgt := 44) jEq.rf dX7_pivot_38 (by decide) (fun c38 => ?_) (fun c38 => ?_)
      · have q38_0 := hI35_0.of (by omega)
        try simp only [he23.eq, he34.eq] at q38_0
        refine J_aload_n dX7_pivot_44 rfl ?_
        refine J_iload_n dX7_pivot_45 rfl ?_
        have hmr := hv_MN x1.toInt.toNat (by omega)
        dsimp only at hmr
        refine Jw_callV1 (q9 := (RX7, TX7, 34)) moX7_brings jw_ml_X7_137 jw_im_X7_brings jw_se_X7_brings ha0 rfl rfl dX7_pivot_46 (w_X7_brings_z (d - 1) _ a0 x1 mn sp rw MN SP RW (by omega) hW  ha0 ⟨_, hO_a0, hF_mn⟩ ⟨_, hO_a0, hF_sp⟩ ⟨_, hO_a0, hF_rw⟩ ha_MN ha_SP ha_RW (by omega) (by omega)) (by omega) (Nat.zero_le _) (Nat.zero_le _) (Nat.le_of_ble_eq_true rfl) (fun r46 V46 h46 => ?_)
        obtain ⟨h46, hX46_0, hX46_1, ⟨fv46_0, hfv46_0, hfp46_0⟩⟩ := h46
        obtain ⟨hW, hx46, hr46⟩ := h46
        have he := he.trans (hx46.sub (jsub_of rfl))
        have hkp := hkp.trans hX46_1
        have ha0 := ha0.mono hx46.1
        have hb_gr := hb_gr.mono hx46.1
        have hb_mn := hb_mn.mono hx46.1
        have hb_sp := hb_sp.mono hx46.1
        have hb_rw := hb_rw.mono hx46.1
        have hb_px := hb_px.mono hx46.1
        have hb_py := hb_py.mono hx46.1
        have hb_pz := hb_pz.mono hx46.1
        obtain ⟨fs46a0, hOfs46a0, hRfs46a0⟩ := hx46.1.keep hO_a0
        have hKfs46a0 : jokO _ (jFs 5) fs46a0 := hW _ _ id hOfs46a0
        have hFfs46a0_1 := hRfs46a0 _ _ hF_gr
        have hFfs46a0_2 := hRfs46a0 _ _ hF_mn
        have hFfs46a0_3 := hRfs46a0 _ _ hF_sp
        have hFfs46a0_4 := hRfs46a0 _ _ hF_rw
        have hFfs46a0_6 := hRfs46a0 _ _ hF_px
        have hFfs46a0_7 := hRfs46a0 _ _ hF_py
        have hFfs46a0_8 := hRfs46a0 _ _ hF_pz
        have ha_GA := hx46.2 _ _ ha_GA (jnot_of rfl)
        have ha_MN := hx46.2 _ _ ha_MN (jnot_of rfl)
        have ha_SP := hx46.2 _ _ ha_SP (jnot_of rfl)
        have ha_PX := hx46.2 _ _ ha_PX (jnot_of rfl)
        have ha_PY := hx46.2 _ _ ha_PY (jnot_of rfl)
        have ha_PZ := hx46.2 _ _ ha_PZ (jnot_of rfl)
        cases hr46
        have hFv46_0 := hfv46_0.get hOfs46a0
        have hzf46_0 : jEq fv46_0.toInt ((MN (x1.toInt).toNat).toInt) := hfp46_0
        clear hfp46_0
        obtain ⟨R2, hR2, hRe⟩ := hX46_0
        obtain ⟨hN_R2, hv_R2⟩ := WT_rngI (r := ((-2147483648), 2147483647)) hW id rfl hR2
        clear hN_R2
        refine J_iload_n dX7_pivot_49 rfl ?_
        refine J_istore dX7_pivot_50 rfl (by decide) ?_
        have L52 : ∀ (N : Nat) (V : jH) (i4n52 : Int32) (F17n52 : Nat → Int32), WT V → jeff [.inr 5, .inl 17, .inl 18, .inl 19, .inl 20] V0 V → (jis V (.inr 5) a0) → (jis V (.inl 14) gr) → (jis V (.inl 15) mn) → (jis V (.inl 16) sp) → (jis V (.inl 17) rw) → (jis V (.inl 18) px) → (jis V (.inl 19) py) → (jis V (.inl 20) pz) → (jkc 5 [0, 23, 24] V0 V) → (V a0 = some (.inr (5, fs46a0))) → (jokO V (jFs 5) fs46a0) → (V rw = some (.inl (17, 120, .inl F17n52))) → (V gr = some (.inl (14, 16, .inl GA))) → (V mn = some (.inl (15, 16, .inl MN))) → (V sp = some (.inl (16, 960, .inl SP))) → (V px = some (.inl (18, 121, .inl PX))) → (V py = some (.inl (19, 121, .inl PY))) → (V pz = some (.inl (20, 121, .inl PZ))) → (x2.toInt ≤ i4n52.toInt ∧ i4n52.toInt ≤ (MN x1.toInt.toNat).toInt) → (∀ j : Nat, (j : Int) < i4n52.toInt → (F17n52 j).toInt = (jTp (GA x1.toInt.toNat).toInt x3.toInt x2.toInt (fun q => (SP (60 * x1.toInt.toNat + q)).toInt)) j) → (∀ j : Nat, i4n52.toInt ≤ (j : Int) → (j : Int) < (MN x1.toInt.toNat).toInt → F17n52 j = SP (60 * x1.toInt.toNat + j)) → (300 - i4n52.toInt).toNat < N → J tS mX7_pivot d 52 [some (.ref a0), some (.int x1), some (.int x2), some (.int x3), some (.int i4n52)] [] V 0 0 (fun r V => (jPost [.inr 5, .inl 17, .inl 18, .inl 19, .inl 20] V0 (fun r _ => ∃ y : Int32, r = some (.int y) ∧ ((-2147483648) ≤ y.toInt) ∧ (y.toInt ≤ 2147483647) ∧ (y.toInt = -3))) r V ∧ jkc 5 [0, 23, 24] V0 V) := by
          intro N
          induction N with
          | zero => intro V i4n52 F17n52 hW he ha0 hb_gr hb_mn hb_sp hb_rw hb_px hb_py hb_pz hkp hOfs46a0 hKfs46a0 hAF17n52 ha_GA ha_MN ha_SP ha_PX ha_PY ha_PZ hi4 hra hrb hm; exact absurd hm (Nat.not_lt_zero _)
          | succ N ih =>
            intro V i4n52 F17n52 hW he ha0 hb_gr hb_mn hb_sp hb_rw hb_px hb_py hb_pz hkp hOfs46a0 hKfs46a0 hAF17n52 ha_GA ha_MN ha_SP ha_PX ha_PY ha_PZ hi4 hra hrb hm
            have ih52 := ih
            have hri4 := j_rng i4n52
            obtain ⟨hNF17n52, hvF17n52⟩ := WT_rngI (r := ((-2147483648), 2147483647)) hW id rfl hAF17n52
            clear hNF17n52
            refine J_iload dX7_pivot_52 rfl ?_
            refine J_aload_n dX7_pivot_54 rfl ?_
            refine J_get jf_X7_109 dX7_pivot_55 hOfs46a0 hFv46_0 ?_
            refine Jz_icmp_ge (tgt := 91) jEq.rf hzf46_0 dX7_pivot_58 (by decide) (fun c58 => ?_) (fun c58 => ?_)
            · refine J_aload_n dX7_pivot_91 rfl ?_
              refine J_iload_n dX7_pivot_92 rfl ?_
              refine Jw_callV1 (q9 := (RX7, TX7, 34)) moX7_becomes jw_ml_X7_140 jw_im_X7_becomes jw_se_X7_becomes ha0 rfl rfl dX7_pivot_93 (w_X7_becomes_no (d - 1) _ a0 x1 fv46_0 gr mn sp rw px py pz GA MN SP F17n52 PX PY PZ (by omega) hW  ha0 ⟨_, hOfs46a0, hFv46_0⟩ ⟨_, hOfs46a0, hFfs46a0_1⟩ ⟨_, hOfs46a0, hFfs46a0_2⟩ ⟨_, hOfs46a0, hFfs46a0_3⟩ ⟨_, hOfs46a0, hFfs46a0_4⟩ ⟨_, hOfs46a0, hFfs46a0_6⟩ ⟨_, hOfs46a0, hFfs46a0_7⟩ ⟨_, hOfs46a0, hFfs46a0_8⟩ ha_GA ha_MN ha_SP hAF17n52 ha_PX ha_PY ha_PZ (by omega) (by omega) (fun h => hp7 (by rw [hzf46_0.eq] at h; exact h.congr (fun k hk => hra k (by omega))))) (by omega) (Nat.zero_le _) (Nat.zero_le _) (Nat.le_of_ble_eq_true rfl) (fun r93 V93 h93 => ?_)
              obtain ⟨hW, hx93, hr93⟩ := h93
              have he := he.trans (hx93.sub (jsub_of rfl))
              have hkp := hkp.trans (jkc.of hx93 (jnot_of rfl))
              have ha0 := ha0.mono hx93.1
              have hb_gr := hb_gr.mono hx93.1
              have hb_mn := hb_mn.mono hx93.1
              have hb_sp := hb_sp.mono hx93.1
              have hb_rw := hb_rw.mono hx93.1
              have hb_px := hb_px.mono hx93.1
              have hb_py := hb_py.mono hx93.1
              have hb_pz := hb_pz.mono hx93.1
              have hOfs46a0 := hx93.2 _ _ hOfs46a0 (jnot_of rfl)
              have hKfs46a0 := hKfs46a0.mono hx93.1
              have hAF17n52 := hx93.2 _ _ hAF17n52 (jnot_of rfl)
              have ha_GA := hx93.2 _ _ ha_GA (jnot_of rfl)
              have ha_MN := hx93.2 _ _ ha_MN (jnot_of rfl)
              have ha_SP := hx93.2 _ _ ha_SP (jnot_of rfl)
              obtain ⟨y93, rfl, hl93, hh93, hP93_0⟩ := hr93
              clear hl93 hh93
              try simp only [hzf46_0.eq] at hP93_0
              refine Jz_if_ge (tgt := 104) jEq.rf dX7_pivot_96 (by decide) (fun c96 => ?_) (fun c96 => ?_)
              · exact False.elim (by omega)
              · refine Jz_bipush (-3) dX7_pivot_99 (by decide) (fun y99 he99 => ?_)
                refine J_goto (tgt := 105) dX7_pivot_101 (by decide) ?_
                exact J_ret (r := some (.int _)) dX7_pivot_105 ⟨rfl, _, rfl, rfl⟩ (⟨⟨hW, he, ⟨_, rfl, (j_rng _).1, (j_rng _).2, (by (try simp only [he99.eq, true_and, and_true]) <;> omega)⟩⟩, hkp⟩)
            · refine J_aload_n dX7_pivot_61 rfl ?_
              refine J_get jf_X7_19 dX7_pivot_62 hOfs46a0 hFfs46a0_4 ?_
              refine J_iload dX7_pivot_65 rfl ?_
              refine J_aload_n dX7_pivot_67 rfl ?_
              refine J_get jf_X7_7 dX7_pivot_68 hOfs46a0 hFfs46a0_1 ?_
              refine J_iload_n dX7_pivot_71 rfl ?_
              refine Jz_iald (r := (0, 3)) jEq.rf dX7_pivot_72 ha_GA rfl hv_GA (by omega) (by omega) (fun y72 hf72 hl72 hh72 => ?_)
              dsimp only at hl72 hh72
              clear hl72 hh72
              have he72 : jEq y72.toInt (y29.toInt) := by rw [← hf72, hf29]; exact jEq.rf
              refine J_iload_n dX7_pivot_73 rfl ?_
              refine J_aload_n dX7_pivot_74 rfl ?_
              refine J_get jf_X7_19 dX7_pivot_75 hOfs46a0 hFfs46a0_4 ?_
              refine J_iload dX7_pivot_78 rfl ?_
              refine Jz_iald (r := ((-2147483648), 2147483647)) jEq.rf dX7_pivot_80 hAF17n52 rfl hvF17n52 (by omega) (by omega) (fun y80 hf80 hl80 hh80 => ?_)
              dsimp only at hl80 hh80
              clear hl80 hh80
              have hq80 : (SP (60 * x1.toInt.toNat + i4n52.toInt.toNat)).toInt = y80.toInt := by rw [← hf80, hrb i4n52.toInt.toNat (by omega) (by omega)]
              have hpd := hp6 i4n52.toInt.toNat (by omega)
              rw [hq29, hq80] at hpd
              refine J_callS3 moX7_turned jw_ml_X7_146 jw_st_X7_turned dX7_pivot_81 (w_X7_turned_z (d - 1) _ y72 x3 y80 (by omega)   (by (try simp only [he72.eq, true_and, and_true]) <;> omega) (by (try simp only [he72.eq, true_and, and_true]) <;> omega) (by omega) (by (try simp only [he72.eq, true_and, and_true]) <;> omega) (by omega) (by (try simp only [he72.eq, true_and, and_true]) <;> omega)) (by omega) (Nat.zero_le _) (Nat.zero_le _) (Nat.le_of_ble_eq_true rfl) (fun r81 V81 h81 => ?_)
              obtain ⟨⟨y81, rfl, hl81, hh81, hP81_0⟩, hE81⟩ := h81
              have hE81 := hE81.symm
              subst hE81
              clear hl81 hh81
              try simp only [he72.eq] at hP81_0
              have hz81 : jEq y81.toInt (jtn (y29.toInt) (x3.toInt) (y80.toInt)) := hP81_0
              clear hP81_0
              have htb := jtn_b (g := y29.toInt) (t := x3.toInt) (d := y80.toInt) (by omega) (by omega) (by omega) (by omega) (by omega) (by omega)
              have hdc := jdir_cases y29.toInt
              refine Jz_iast (r := ((-2147483648), 2147483647)) jEq.rf hz81 hW id dX7_pivot_84 hAF17n52 rfl rfl (by omega) (by omega) (by omega) (by omega) (fun V84 G84 hW hx84 hA84 hp84 ho84 => ?_)
              obtain ⟨hN84, hv84⟩ := WT_rngI (r := ((-2147483648), 2147483647)) hW id rfl hA84
              clear hN84
              have he := he.trans (hx84.sub (jsub_of rfl))
              have hkp := hkp.trans (jkc.of hx84 (jnot_of rfl))
              have ha0 := ha0.mono hx84.1
              have hb_gr := hb_gr.mono hx84.1
              have hb_mn := hb_mn.mono hx84.1
              have hb_sp := hb_sp.mono hx84.1
              have hb_rw := hb_rw.mono hx84.1
              have hb_px := hb_px.mono hx84.1
              have hb_py := hb_py.mono hx84.1
              have hb_pz := hb_pz.mono hx84.1
              have hOfs46a0 := hx84.2 _ _ hOfs46a0 (jnot_of rfl)
              have hKfs46a0 := hKfs46a0.mono hx84.1
              have ha_GA := hx84.2 _ _ ha_GA (jnot_of rfl)
              have ha_MN := hx84.2 _ _ ha_MN (jnot_of rfl)
              have ha_SP := hx84.2 _ _ ha_SP (jnot_of rfl)
              have ha_PX := hx84.2 _ _ ha_PX (jnot_of rfl)
              have ha_PY := hx84.2 _ _ ha_PY (jnot_of rfl)
              have ha_PZ := hx84.2 _ _ ha_PZ (jnot_of rfl)
              refine Jz_iinc 1 dX7_pivot_85 rfl rfl (by decide) jEq.rf (by decide) (by omega) (by omega) (fun y85 he85 => ?_)
              refine J_goto (tgt := 52) dX7_pivot_88 (by decide) ?_
              refine J.mask [true, true, true, true, true] ?_
              exact ih52 _ y85 G84 hW he ha0 hb_gr hb_mn hb_sp hb_rw hb_px hb_py hb_pz hkp hOfs46a0 hKfs46a0 hA84 ha_GA ha_MN ha_SP ha_PX ha_PY ha_PZ (by (try simp only [he85.eq, true_and, and_true]) <;> omega) (fun j hj => by rw [he85.eq] at hj; by_cases h9 : (j : Int) = i4n52.toInt; (have e : j = i4n52.toInt.toNat := by omega); subst e; rw [hp84, hz81.eq]; unfold jTp; rw [if_neg (by omega)]; (show jtn _ _ _ = jtn _ _ (SP (60 * x1.toInt.toNat + i4n52.toInt.toNat)).toInt); rw [hq29, hq80]; rw [ho84 j (by omega)]; exact hra j (by omega)) (fun j hj hj2 => by rw [he85.eq] at hj; rw [ho84 j (by omega)]; exact hrb j (by omega) hj2) (by (try simp only [he85.eq, true_and, and_true]) <;> omega)
        refine J.mask [true, true, true, true, true] ?_
        exact L52 _ _ x2 R2 hW he ha0 hb_gr hb_mn hb_sp hb_rw hb_px hb_py hb_pz hkp hOfs46a0 hKfs46a0 hR2 ha_GA ha_MN ha_SP ha_PX ha_PY ha_PZ (by omega) (fun j hj => by rw [hRe j (by omega)]; unfold jTp; rw [if_pos hj]) (fun j hj hj2 => hRe j hj2) (Nat.lt_succ_self _)
      · have q38_1 := hI35_1.of (by omega)
        try simp only [he23.eq, he34.eq] at q38_1
        exact False.elim (by omega)
set_option maxRecDepth 100000 in
set_option maxHeartbeats 8000000 in
theorem w_X7_pivot_ok {tS : jTS} (d : Nat) (V0 : jH) (a0 : Nat) (x1 : Int32) (x2 : Int32) (x3 : Int32) (v0 : Int32) (gr : Nat) (mn : Nat) (sp : Nat) (rw : Nat) (px : Nat) (py : Nat) (pz : Nat) (GA : Nat → Int32) (MN : Nat → Int32) (SP : Nat → Int32) (RW : Nat → Int32) (PX : Nat → Int32) (PY : Nat → Int32) (PZ : Nat → Int32) (hd : 3 ≤ d) (hW : WT V0) (ha0 : jis V0 (.inr 5) a0) (hf_v0 : jfI V0 a0 5 0 v0) (hr_gr : jfR V0 a0 5 1 gr) (hr_mn : jfR V0 a0 5 2 mn) (hr_sp : jfR V0 a0 5 3 sp) (hr_rw : jfR V0 a0 5 4 rw) (hr_px : jfR V0 a0 5 6 px) (hr_py : jfR V0 a0 5 7 py) (hr_pz : jfR V0 a0 5 8 pz) (ha_GA : V0 gr = some (.inl (14, 16, .inl GA))) (ha_MN : V0 mn = some (.inl (15, 16, .inl MN))) (ha_SP : V0 sp = some (.inl (16, 960, .inl SP))) (ha_RW : V0 rw = some (.inl (17, 120, .inl RW))) (ha_PX : V0 px = some (.inl (18, 121, .inl PX))) (ha_PY : V0 py = some (.inl (19, 121, .inl PY))) (ha_PZ : V0 pz = some (.inl (20, 121, .inl PZ))) (hp0 : 0 ≤ x1.toInt) (hp1 : x1.toInt < v0.toInt) (hp2 : 0 ≤ x2.toInt) (hp3 : x2.toInt ≤ (MN x1.toInt.toNat).toInt) (hp4 : 0 ≤ x3.toInt) (hp5 : x3.toInt < jtur (GA x1.toInt.toNat).toInt) (hp6 : ∀ j : Nat, (j : Int) < (MN x1.toInt.toNat).toInt → 0 ≤ (SP (60 * x1.toInt.toNat + j)).toInt ∧ (SP (60 * x1.toInt.toNat + j)).toInt < jdir (GA x1.toInt.toNat).toInt) (hp7 : jav (GA x1.toInt.toNat).toInt (jTp (GA x1.toInt.toNat).toInt x3.toInt x2.toInt (fun q => (SP (60 * x1.toInt.toNat + q)).toInt)) (MN x1.toInt.toNat).toInt.toNat) : jTot tS mX7_pivot d [.ref a0, .int x1, .int x2, .int x3] V0 0 0 (fun r V => (jPost [.inr 5, .inl 17, .inl 18, .inl 19, .inl 20, .inl 15, .inl 16] V0 (fun r _ => ∃ y : Int32, r = some (.int y) ∧ ((-2147483648) ≤ y.toInt) ∧ (y.toInt ≤ 2147483647) ∧ (y.toInt = 1))) r V ∧ (∃ M2 : Nat → Int32, V mn = some (.inl (15, 16, .inl M2)) ∧ (M2 x1.toInt.toNat).toInt = (MN x1.toInt.toNat).toInt ∧ ∀ j : Nat, j ≠ x1.toInt.toNat → M2 j = MN j) ∧ (∃ S2 : Nat → Int32, V sp = some (.inl (16, 960, .inl S2)) ∧ (∀ j : Nat, (j : Int) < (MN x1.toInt.toNat).toInt → (S2 (60 * x1.toInt.toNat + j)).toInt = (jTp (GA x1.toInt.toNat).toInt x3.toInt x2.toInt (fun q => (SP (60 * x1.toInt.toNat + q)).toInt)) j) ∧ ∀ q : Nat, q < 60 * x1.toInt.toNat ∨ 60 * x1.toInt.toNat + 60 ≤ q → S2 q = SP q) ∧ jkc 5 [0, 23, 24] V0 V) := by
  refine jTot.of_J [some (.ref a0), some (.int x1), some (.int x2), some (.int x3), none] moX7_pivot (Nat.le_of_ble_eq_true rfl) rfl ?_
  have hrx1 := j_rng x1
  have hrx2 := j_rng x2
  have hrx3 := j_rng x3
  have he : jeff [.inr 5, .inl 17, .inl 18, .inl 19, .inl 20, .inl 15, .inl 16] V0 V0 := jeff.refl _ _
  have hkp : jkc 5 [0, 23, 24] V0 V0 := jkc.rf
  obtain ⟨fs_a0, hO_a0, hK_a0⟩ := WT_obj hW id ha0
  have hF_v0 := hf_v0.get hO_a0
  have hrv0 : 0 ≤ v0.toInt ∧ v0.toInt ≤ 16 := jok_rngI hK_a0 rfl hF_v0
  have hF_gr := hr_gr.get hO_a0
  obtain ⟨w_gr, hFq_gr, b_gr, hbq_gr, hb_gr⟩ := hK_a0.2 1 (.inr (some (.inl 14))) rfl
  cases hF_gr.symm.trans (hFq_gr.trans (congrArg some hbq_gr))
  have hF_mn := hr_mn.get hO_a0
  obtain ⟨w_mn, hFq_mn, b_mn, hbq_mn, hb_mn⟩ := hK_a0.2 2 (.inr (some (.inl 15))) rfl
  cases hF_mn.symm.trans (hFq_mn.trans (congrArg some hbq_mn))
  have hF_sp := hr_sp.get hO_a0
  obtain ⟨w_sp, hFq_sp, b_sp, hbq_sp, hb_sp⟩ := hK_a0.2 3 (.inr (some (.inl 16))) rfl
  cases hF_sp.symm.trans (hFq_sp.trans (congrArg some hbq_sp))
  have hF_rw := hr_rw.get hO_a0
  obtain ⟨w_rw, hFq_rw, b_rw, hbq_rw, hb_rw⟩ := hK_a0.2 4 (.inr (some (.inl 17))) rfl
  cases hF_rw.symm.trans (hFq_rw.trans (congrArg some hbq_rw))
  have hF_px := hr_px.get hO_a0
  obtain ⟨w_px, hFq_px, b_px, hbq_px, hb_px⟩ := hK_a0.2 6 (.inr (some (.inl 18))) rfl
  cases hF_px.symm.trans (hFq_px.trans (congrArg some hbq_px))
  have hF_py := hr_py.get hO_a0
  obtain ⟨w_py, hFq_py, b_py, hbq_py, hb_py⟩ := hK_a0.2 7 (.inr (some (.inl 19))) rfl
  cases hF_py.symm.trans (hFq_py.trans (congrArg some hbq_py))
  have hF_pz := hr_pz.get hO_a0
  obtain ⟨w_pz, hFq_pz, b_pz, hbq_pz, hb_pz⟩ := hK_a0.2 8 (.inr (some (.inl 20))) rfl
  cases hF_pz.symm.trans (hFq_pz.trans (congrArg some hbq_pz))
  obtain ⟨hN_GA, hv_GA⟩ := WT_rngI (r := (0, 3)) hW id rfl ha_GA
  clear hN_GA
  obtain ⟨hN_MN, hv_MN⟩ := WT_rngI (r := (0, 60)) hW id rfl ha_MN
  clear hN_MN
  obtain ⟨hN_SP, hv_SP⟩ := WT_rngI (r := ((-2147483648), 2147483647)) hW id rfl ha_SP
  clear hN_SP
  obtain ⟨hN_RW, hv_RW⟩ := WT_rngI (r := ((-2147483648), 2147483647)) hW id rfl ha_RW
  clear hN_RW
  obtain ⟨hN_PX, hv_PX⟩ := WT_rngI (r := ((-2147483648), 2147483647)) hW id rfl ha_PX
  clear hN_PX
  obtain ⟨hN_PY, hv_PY⟩ := WT_rngI (r := ((-2147483648), 2147483647)) hW id rfl ha_PY
  clear hN_PY
  obtain ⟨hN_PZ, hv_PZ⟩ := WT_rngI (r := ((-2147483648), 2147483647)) hW id rfl ha_PZ
  clear hN_PZ
  refine J_aload_n dX7_pivot_0 rfl ?_
  refine J_iload_n dX7_pivot_1 rfl ?_
  refine Jw_callV1 (q9 := (RX7, TX7, 34)) moX7_isWalk jw_ml_X7_130 jw_im_X7_isWalk jw_se_X7_isWalk ha0 rfl rfl dX7_pivot_2 (w_X7_isWalk_z (d - 1) _ a0 x1 v0 (by omega) hW  ha0 ⟨_, hO_a0, hF_v0⟩) (by omega) (Nat.zero_le _) (Nat.zero_le _) (Nat.le_of_ble_eq_true rfl) (fun r2 V2 h2 => ?_)
  obtain ⟨⟨y2, rfl, hl2, hh2, hP2_0⟩, hE2⟩ := h2
  have hE2 := hE2.symm
  subst hE2
  refine Jz_if_eq (tgt := 41) jEq.rf dX7_pivot_5 (by decide) (fun c5 => ?_) (fun c5 => ?_)
  · exact False.elim (by omega)
  · refine J_iload_n dX7_pivot_8 rfl ?_
    refine Jz_iconst 0 dX7_pivot_9 (by decide) (fun y9 he9 => ?_)
    refine J_aload_n dX7_pivot_10 rfl ?_
    refine J_get jf_X7_13 dX7_pivot_11 hO_a0 hF_mn ?_
    refine J_iload_n dX7_pivot_14 rfl ?_
    refine Jz_iald (r := (0, 60)) jEq.rf dX7_pivot_15 ha_MN rfl hv_MN (by omega) (by omega) (fun y15 hf15 hl15 hh15 => ?_)
    dsimp only at hl15 hh15
    have hq15 : (MN x1.toInt.toNat).toInt = y15.toInt := by rw [hf15]
    refine J_callS3 moX7_in jw_ml_X7_105 jw_st_X7_in dX7_pivot_16 (w_X7_in (d - 1) _ x2 y9 y15 (by omega)   ) (by omega) (Nat.zero_le _) (Nat.zero_le _) (Nat.le_of_ble_eq_true rfl) (fun r16 V16 h16 => ?_)
    obtain ⟨⟨y16, rfl, hl16, hh16, hI16_0, hI16_1⟩, hE16⟩ := h16
    have hE16 := hE16.symm
    subst hE16
    refine Jz_if_eq (tgt := 41) jEq.rf dX7_pivot_19 (by decide) (fun c19 => ?_) (fun c19 => ?_)
    · have q19_1 := hI16_1.of (by omega)
      try simp only [he9.eq] at q19_1
      exact False.elim (by omega)
    · have q19_0 := hI16_0.of (by omega)
      try simp only [he9.eq] at q19_0
      refine J_iload_n dX7_pivot_22 rfl ?_
      refine Jz_iconst 0 dX7_pivot_23 (by decide) (fun y23 he23 => ?_)
      refine J_aload_n dX7_pivot_24 rfl ?_
      refine J_get jf_X7_7 dX7_pivot_25 hO_a0 hF_gr ?_
      refine J_iload_n dX7_pivot_28 rfl ?_
      refine Jz_iald (r := (0, 3)) jEq.rf dX7_pivot_29 ha_GA rfl hv_GA (by omega) (by omega) (fun y29 hf29 hl29 hh29 => ?_)
      dsimp only at hl29 hh29
      have hq29 : (GA x1.toInt.toNat).toInt = y29.toInt := by rw [hf29]
      have hp5b := hp5
      rw [hq29] at hp5b
      refine J_callS1 moX7_turns jw_ml_X7_143 jw_st_X7_turns dX7_pivot_30 (w_X7_turns (d - 1) _ y29 (by omega)   ) (by omega) (Nat.zero_le _) (Nat.zero_le _) (Nat.le_of_ble_eq_true rfl) (fun r30 V30 h30 => ?_)
      obtain ⟨⟨y30, rfl, hl30, hh30, hP30_0⟩, hE30⟩ := h30
      have hE30 := hE30.symm
      subst hE30
      have hz30 : jEq y30.toInt (jtur (y29.toInt)) := hP30_0
      simp only [hP30_0] at hl30 hh30
      clear hP30_0
      refine Jz_iconst 1 dX7_pivot_33 (by decide) (fun y33 he33 => ?_)
      refine Jz_isub hz30 he33 dX7_pivot_34 (by omega) (by omega) (fun y34 he34 => ?_)
      refine J_callS3 moX7_in jw_ml_X7_105 jw_st_X7_in dX7_pivot_35 (w_X7_in (d - 1) _ x3 y23 y34 (by omega)   ) (by omega) (Nat.zero_le _) (Nat.zero_le _) (Nat.le_of_ble_eq_true rfl) (fun r35 V35 h35 => ?_)
      obtain ⟨⟨y35, rfl, hl35, hh35, hI35_0, hI35_1⟩, hE35⟩ := h35
      have hE35 := hE35.symm
      subst hE35
      refine Jz_if_ne (tgt := 44) jEq.rf dX7_pivot_38 (by decide) (fun c38 => ?_) (fun c38 => ?_)
      · have q38_0 := hI35_0.of (by omega)
        try simp only [he23.eq, he34.eq] at q38_0
        refine J_aload_n dX7_pivot_44 rfl ?_
        refine J_iload_n dX7_pivot_45 rfl ?_
        have hmr := hv_MN x1.toInt.toNat (by omega)
        dsimp only at hmr
        refine Jw_callV1 (q9 := (RX7, TX7, 34)) moX7_brings jw_ml_X7_137 jw_im_X7_brings jw_se_X7_brings ha0 rfl rfl dX7_pivot_46 (w_X7_brings_z (d - 1) _ a0 x1 mn sp rw MN SP RW (by omega) hW  ha0 ⟨_, hO_a0, hF_mn⟩ ⟨_, hO_a0, hF_sp⟩ ⟨_, hO_a0, hF_rw⟩ ha_MN ha_SP ha_RW (by omega) (by omega)) (by omega) (Nat.zero_le _) (Nat.zero_le _) (Nat.le_of_ble_eq_true rfl) (fun r46 V46 h46 => ?_)
        obtain ⟨h46, hX46_0, hX46_1, ⟨fv46_0, hfv46_0, hfp46_0⟩⟩ := h46
        obtain ⟨hW, hx46, hr46⟩ := h46
        have he := he.trans (hx46.sub (jsub_of rfl))
        have hkp := hkp.trans hX46_1
        have ha0 := ha0.mono hx46.1
        have hb_gr := hb_gr.mono hx46.1
        have hb_mn := hb_mn.mono hx46.1
        have hb_sp := hb_sp.mono hx46.1
        have hb_rw := hb_rw.mono hx46.1
        have hb_px := hb_px.mono hx46.1
        have hb_py := hb_py.mono hx46.1
        have hb_pz := hb_pz.mono hx46.1
        obtain ⟨fs46a0, hOfs46a0, hRfs46a0⟩ := hx46.1.keep hO_a0
        have hKfs46a0 : jokO _ (jFs 5) fs46a0 := hW _ _ id hOfs46a0
        have hFfs46a0_1 := hRfs46a0 _ _ hF_gr
        have hFfs46a0_2 := hRfs46a0 _ _ hF_mn
        have hFfs46a0_3 := hRfs46a0 _ _ hF_sp
        have hFfs46a0_4 := hRfs46a0 _ _ hF_rw
        have hFfs46a0_6 := hRfs46a0 _ _ hF_px
        have hFfs46a0_7 := hRfs46a0 _ _ hF_py
        have hFfs46a0_8 := hRfs46a0 _ _ hF_pz
        have ha_GA := hx46.2 _ _ ha_GA (jnot_of rfl)
        have ha_MN := hx46.2 _ _ ha_MN (jnot_of rfl)
        have ha_SP := hx46.2 _ _ ha_SP (jnot_of rfl)
        have ha_PX := hx46.2 _ _ ha_PX (jnot_of rfl)
        have ha_PY := hx46.2 _ _ ha_PY (jnot_of rfl)
        have ha_PZ := hx46.2 _ _ ha_PZ (jnot_of rfl)
        cases hr46
        have hFv46_0 := hfv46_0.get hOfs46a0
        have hzf46_0 : jEq fv46_0.toInt ((MN (x1.toInt).toNat).toInt) := hfp46_0
        clear hfp46_0
        obtain ⟨R2, hR2, hRe⟩ := hX46_0
        obtain ⟨hN_R2, hv_R2⟩ := WT_rngI (r := ((-2147483648), 2147483647)) hW id rfl hR2
        clear hN_R2
        refine J_iload_n dX7_pivot_49 rfl ?_
        refine J_istore dX7_pivot_50 rfl (by decide) ?_
        have L52 : ∀ (N : Nat) (V : jH) (i4n52 : Int32) (F17n52 : Nat → Int32), WT V → jeff [.inr 5, .inl 17, .inl 18, .inl 19, .inl 20, .inl 15, .inl 16] V0 V → (jis V (.inr 5) a0) → (jis V (.inl 14) gr) → (jis V (.inl 15) mn) → (jis V (.inl 16) sp) → (jis V (.inl 17) rw) → (jis V (.inl 18) px) → (jis V (.inl 19) py) → (jis V (.inl 20) pz) → (jkc 5 [0, 23, 24] V0 V) → (V a0 = some (.inr (5, fs46a0))) → (jokO V (jFs 5) fs46a0) → (V rw = some (.inl (17, 120, .inl F17n52))) → (V gr = some (.inl (14, 16, .inl GA))) → (V mn = some (.inl (15, 16, .inl MN))) → (V sp = some (.inl (16, 960, .inl SP))) → (V px = some (.inl (18, 121, .inl PX))) → (V py = some (.inl (19, 121, .inl PY))) → (V pz = some (.inl (20, 121, .inl PZ))) → (x2.toInt ≤ i4n52.toInt ∧ i4n52.toInt ≤ (MN x1.toInt.toNat).toInt) → (∀ j : Nat, (j : Int) < i4n52.toInt → (F17n52 j).toInt = (jTp (GA x1.toInt.toNat).toInt x3.toInt x2.toInt (fun q => (SP (60 * x1.toInt.toNat + q)).toInt)) j) → (∀ j : Nat, i4n52.toInt ≤ (j : Int) → (j : Int) < (MN x1.toInt.toNat).toInt → F17n52 j = SP (60 * x1.toInt.toNat + j)) → (300 - i4n52.toInt).toNat < N → J tS mX7_pivot d 52 [some (.ref a0), some (.int x1), some (.int x2), some (.int x3), some (.int i4n52)] [] V 0 0 (fun r V => (jPost [.inr 5, .inl 17, .inl 18, .inl 19, .inl 20, .inl 15, .inl 16] V0 (fun r _ => ∃ y : Int32, r = some (.int y) ∧ ((-2147483648) ≤ y.toInt) ∧ (y.toInt ≤ 2147483647) ∧ (y.toInt = 1))) r V ∧ (∃ M2 : Nat → Int32, V mn = some (.inl (15, 16, .inl M2)) ∧ (M2 x1.toInt.toNat).toInt = (MN x1.toInt.toNat).toInt ∧ ∀ j : Nat, j ≠ x1.toInt.toNat → M2 j = MN j) ∧ (∃ S2 : Nat → Int32, V sp = some (.inl (16, 960, .inl S2)) ∧ (∀ j : Nat, (j : Int) < (MN x1.toInt.toNat).toInt → (S2 (60 * x1.toInt.toNat + j)).toInt = (jTp (GA x1.toInt.toNat).toInt x3.toInt x2.toInt (fun q => (SP (60 * x1.toInt.toNat + q)).toInt)) j) ∧ ∀ q : Nat, q < 60 * x1.toInt.toNat ∨ 60 * x1.toInt.toNat + 60 ≤ q → S2 q = SP q) ∧ jkc 5 [0, 23, 24] V0 V) := by
          intro N
          induction N with
          | zero => intro V i4n52 F17n52 hW he ha0 hb_gr hb_mn hb_sp hb_rw hb_px hb_py hb_pz hkp hOfs46a0 hKfs46a0 hAF17n52 ha_GA ha_MN ha_SP ha_PX ha_PY ha_PZ hi4 hra hrb hm; exact absurd hm (Nat.not_lt_zero _)
          | succ N ih =>
            intro V i4n52 F17n52 hW he ha0 hb_gr hb_mn hb_sp hb_rw hb_px hb_py hb_pz hkp hOfs46a0 hKfs46a0 hAF17n52 ha_GA ha_MN ha_SP ha_PX ha_PY ha_PZ hi4 hra hrb hm
            have ih52 := ih
            have hri4 := j_rng i4n52
            obtain ⟨hNF17n52, hvF17n52⟩ := WT_rngI (r := ((-2147483648), 2147483647)) hW id rfl hAF17n52
            clear hNF17n52
            refine J_iload dX7_pivot_52 rfl ?_
            refine J_aload_n dX7_pivot_54 rfl ?_
            refine J_get jf_X7_109 dX7_pivot_55 hOfs46a0 hFv46_0 ?_
            refine Jz_icmp_ge (tgt := 91) jEq.rf hzf46_0 dX7_pivot_58 (by decide) (fun c58 => ?_) (fun c58 => ?_)
            · refine J_aload_n dX7_pivot_91 rfl ?_
              refine J_iload_n dX7_pivot_92 rfl ?_
              refine Jw_callV1 (q9 := (RX7, TX7, 34)) moX7_becomes jw_ml_X7_140 jw_im_X7_becomes jw_se_X7_becomes ha0 rfl rfl dX7_pivot_93 (w_X7_becomes_ok (d - 1) _ a0 x1 fv46_0 gr mn sp rw px py pz GA MN SP F17n52 PX PY PZ (by omega) hW  ha0 ⟨_, hOfs46a0, hFv46_0⟩ ⟨_, hOfs46a0, hFfs46a0_1⟩ ⟨_, hOfs46a0, hFfs46a0_2⟩ ⟨_, hOfs46a0, hFfs46a0_3⟩ ⟨_, hOfs46a0, hFfs46a0_4⟩ ⟨_, hOfs46a0, hFfs46a0_6⟩ ⟨_, hOfs46a0, hFfs46a0_7⟩ ⟨_, hOfs46a0, hFfs46a0_8⟩ ha_GA ha_MN ha_SP hAF17n52 ha_PX ha_PY ha_PZ (by omega) (by omega) (by rw [hzf46_0.eq]; exact hp7.congr (fun k hk => (hra k (by omega)).symm)) (by rw [hzf46_0.eq]; omega)) (by omega) (Nat.zero_le _) (Nat.zero_le _) (Nat.le_of_ble_eq_true rfl) (fun r93 V93 h93 => ?_)
              obtain ⟨h93, hX93_0, hX93_1⟩ := h93
              obtain ⟨hW, hx93, hr93⟩ := h93
              have he := he.trans (hx93.sub (jsub_of rfl))
              have hkp := hkp.trans (jkc.of hx93 (jnot_of rfl))
              have ha0 := ha0.mono hx93.1
              have hb_gr := hb_gr.mono hx93.1
              have hb_mn := hb_mn.mono hx93.1
              have hb_sp := hb_sp.mono hx93.1
              have hb_rw := hb_rw.mono hx93.1
              have hb_px := hb_px.mono hx93.1
              have hb_py := hb_py.mono hx93.1
              have hb_pz := hb_pz.mono hx93.1
              have hOfs46a0 := hx93.2 _ _ hOfs46a0 (jnot_of rfl)
              have hKfs46a0 := hKfs46a0.mono hx93.1
              have hAF17n52 := hx93.2 _ _ hAF17n52 (jnot_of rfl)
              have ha_GA := hx93.2 _ _ ha_GA (jnot_of rfl)
              obtain ⟨y93, rfl, hl93, hh93, hP93_0⟩ := hr93
              clear hl93 hh93
              try simp only [hzf46_0.eq] at hP93_0
              refine Jz_if_ge (tgt := 104) jEq.rf dX7_pivot_96 (by decide) (fun c96 => ?_) (fun c96 => ?_)
              · refine Jz_iconst 1 dX7_pivot_104 (by decide) (fun y104 he104 => ?_)
                exact J_ret (r := some (.int _)) dX7_pivot_105 ⟨rfl, _, rfl, rfl⟩ (⟨⟨hW, he, ⟨_, rfl, (j_rng _).1, (j_rng _).2, (by (try simp only [he104.eq, true_and, and_true]) <;> omega)⟩⟩, (hX93_0.imp (fun M2 q => ⟨q.1, by rw [q.2.1, hzf46_0.eq], q.2.2⟩)), (hX93_1.imp (fun S2 q => ⟨q.1, fun j hj => by rw [q.2.1 j (by rw [hzf46_0.eq]; omega)]; exact hra j (by omega), q.2.2⟩)), hkp⟩)
              · exact False.elim (by first | omega | (have q := hzf46_0.eq; omega))
            · refine J_aload_n dX7_pivot_61 rfl ?_
              refine J_get jf_X7_19 dX7_pivot_62 hOfs46a0 hFfs46a0_4 ?_
              refine J_iload dX7_pivot_65 rfl ?_
              refine J_aload_n dX7_pivot_67 rfl ?_
              refine J_get jf_X7_7 dX7_pivot_68 hOfs46a0 hFfs46a0_1 ?_
              refine J_iload_n dX7_pivot_71 rfl ?_
              refine Jz_iald (r := (0, 3)) jEq.rf dX7_pivot_72 ha_GA rfl hv_GA (by omega) (by omega) (fun y72 hf72 hl72 hh72 => ?_)
              dsimp only at hl72 hh72
              clear hl72 hh72
              have he72 : jEq y72.toInt (y29.toInt) := by rw [← hf72, hf29]; exact jEq.rf
              refine J_iload_n dX7_pivot_73 rfl ?_
              refine J_aload_n dX7_pivot_74 rfl ?_
              refine J_get jf_X7_19 dX7_pivot_75 hOfs46a0 hFfs46a0_4 ?_
              refine J_iload dX7_pivot_78 rfl ?_
              refine Jz_iald (r := ((-2147483648), 2147483647)) jEq.rf dX7_pivot_80 hAF17n52 rfl hvF17n52 (by omega) (by omega) (fun y80 hf80 hl80 hh80 => ?_)
              dsimp only at hl80 hh80
              clear hl80 hh80
              have hq80 : (SP (60 * x1.toInt.toNat + i4n52.toInt.toNat)).toInt = y80.toInt := by rw [← hf80, hrb i4n52.toInt.toNat (by omega) (by omega)]
              have hpd := hp6 i4n52.toInt.toNat (by omega)
              rw [hq29, hq80] at hpd
              refine J_callS3 moX7_turned jw_ml_X7_146 jw_st_X7_turned dX7_pivot_81 (w_X7_turned_z (d - 1) _ y72 x3 y80 (by omega)   (by (try simp only [he72.eq, true_and, and_true]) <;> omega) (by (try simp only [he72.eq, true_and, and_true]) <;> omega) (by omega) (by (try simp only [he72.eq, true_and, and_true]) <;> omega) (by omega) (by (try simp only [he72.eq, true_and, and_true]) <;> omega)) (by omega) (Nat.zero_le _) (Nat.zero_le _) (Nat.le_of_ble_eq_true rfl) (fun r81 V81 h81 => ?_)
              obtain ⟨⟨y81, rfl, hl81, hh81, hP81_0⟩, hE81⟩ := h81
              have hE81 := hE81.symm
              subst hE81
              clear hl81 hh81
              try simp only [he72.eq] at hP81_0
              have hz81 : jEq y81.toInt (jtn (y29.toInt) (x3.toInt) (y80.toInt)) := hP81_0
              clear hP81_0
              have htb := jtn_b (g := y29.toInt) (t := x3.toInt) (d := y80.toInt) (by omega) (by omega) (by omega) (by omega) (by omega) (by omega)
              have hdc := jdir_cases y29.toInt
              refine Jz_iast (r := ((-2147483648), 2147483647)) jEq.rf hz81 hW id dX7_pivot_84 hAF17n52 rfl rfl (by omega) (by omega) (by omega) (by omega) (fun V84 G84 hW hx84 hA84 hp84 ho84 => ?_)
              obtain ⟨hN84, hv84⟩ := WT_rngI (r := ((-2147483648), 2147483647)) hW id rfl hA84
              clear hN84
              have he := he.trans (hx84.sub (jsub_of rfl))
              have hkp := hkp.trans (jkc.of hx84 (jnot_of rfl))
              have ha0 := ha0.mono hx84.1
              have hb_gr := hb_gr.mono hx84.1
              have hb_mn := hb_mn.mono hx84.1
              have hb_sp := hb_sp.mono hx84.1
              have hb_rw := hb_rw.mono hx84.1
              have hb_px := hb_px.mono hx84.1
              have hb_py := hb_py.mono hx84.1
              have hb_pz := hb_pz.mono hx84.1
              have hOfs46a0 := hx84.2 _ _ hOfs46a0 (jnot_of rfl)
              have hKfs46a0 := hKfs46a0.mono hx84.1
              have ha_GA := hx84.2 _ _ ha_GA (jnot_of rfl)
              have ha_MN := hx84.2 _ _ ha_MN (jnot_of rfl)
              have ha_SP := hx84.2 _ _ ha_SP (jnot_of rfl)
              have ha_PX := hx84.2 _ _ ha_PX (jnot_of rfl)
              have ha_PY := hx84.2 _ _ ha_PY (jnot_of rfl)
              have ha_PZ := hx84.2 _ _ ha_PZ (jnot_of rfl)
              refine Jz_iinc 1 dX7_pivot_85 rfl rfl (by decide) jEq.rf (by decide) (by omega) (by omega) (fun y85 he85 => ?_)
              refine J_goto (tgt := 52) dX7_pivot_88 (by decide) ?_
              refine J.mask [true, true, true, true, true] ?_
              exact ih52 _ y85 G84 hW he ha0 hb_gr hb_mn hb_sp hb_rw hb_px hb_py hb_pz hkp hOfs46a0 hKfs46a0 hA84 ha_GA ha_MN ha_SP ha_PX ha_PY ha_PZ (by (try simp only [he85.eq, true_and, and_true]) <;> omega) (fun j hj => by rw [he85.eq] at hj; by_cases h9 : (j : Int) = i4n52.toInt; (have e : j = i4n52.toInt.toNat := by omega); subst e; rw [hp84, hz81.eq]; unfold jTp; rw [if_neg (by omega)]; (show jtn _ _ _ = jtn _ _ (SP (60 * x1.toInt.toNat + i4n52.toInt.toNat)).toInt); rw [hq29, hq80]; rw [ho84 j (by omega)]; exact hra j (by omega)) (fun j hj hj2 => by rw [he85.eq] at hj; rw [ho84 j (by omega)]; exact hrb j (by omega) hj2) (by (try simp only [he85.eq, true_and, and_true]) <;> omega)
        refine J.mask [true, true, true, true, true] ?_
        exact L52 _ _ x2 R2 hW he ha0 hb_gr hb_mn hb_sp hb_rw hb_px hb_py hb_pz hkp hOfs46a0 hKfs46a0 hR2 ha_GA ha_MN ha_SP ha_PX ha_PY ha_PZ (by omega) (fun j hj => by rw [hRe j (by omega)]; unfold jTp; rw [if_pos hj]) (fun j hj hj2 => hRe j hj2) (Nat.lt_succ_self _)
      · have q38_1 := hI35_1.of (by omega)
        try simp only [he23.eq, he34.eq] at q38_1
        exact False.elim (by omega)
set_option maxRecDepth 100000 in
set_option maxHeartbeats 8000000 in
theorem w_X7_join_bad {tS : jTS} (d : Nat) (V0 : jH) (a0 : Nat) (x1 : Int32) (x2 : Int32) (v0 : Int32) (gr : Nat) (mn : Nat) (sp : Nat) (rw : Nat) (px : Nat) (py : Nat) (pz : Nat) (GA : Nat → Int32) (MN : Nat → Int32) (SP : Nat → Int32) (RW : Nat → Int32) (PX : Nat → Int32) (PY : Nat → Int32) (PZ : Nat → Int32) (hd : 3 ≤ d) (hW : WT V0) (ha0 : jis V0 (.inr 5) a0) (hf_v0 : jfI V0 a0 5 0 v0) (hr_gr : jfR V0 a0 5 1 gr) (hr_mn : jfR V0 a0 5 2 mn) (hr_sp : jfR V0 a0 5 3 sp) (hr_rw : jfR V0 a0 5 4 rw) (hr_px : jfR V0 a0 5 6 px) (hr_py : jfR V0 a0 5 7 py) (hr_pz : jfR V0 a0 5 8 pz) (ha_GA : V0 gr = some (.inl (14, 16, .inl GA))) (ha_MN : V0 mn = some (.inl (15, 16, .inl MN))) (ha_SP : V0 sp = some (.inl (16, 960, .inl SP))) (ha_RW : V0 rw = some (.inl (17, 120, .inl RW))) (ha_PX : V0 px = some (.inl (18, 121, .inl PX))) (ha_PY : V0 py = some (.inl (19, 121, .inl PY))) (ha_PZ : V0 pz = some (.inl (20, 121, .inl PZ))) (hp0 : ¬ (0 ≤ x1.toInt ∧ x1.toInt < v0.toInt ∧ 0 ≤ x2.toInt ∧ x2.toInt < v0.toInt)) : jTot tS mX7_join d [.ref a0, .int x1, .int x2] V0 0 0 (fun r V => (fun r _ => ∃ y : Int32, r = some (.int y) ∧ ((-2147483648) ≤ y.toInt) ∧ (y.toInt ≤ 2147483647) ∧ (y.toInt = -2)) r V ∧ V = V0) := by
  refine jTot.of_J [some (.ref a0), some (.int x1), some (.int x2), none, none] moX7_join (Nat.le_of_ble_eq_true rfl) rfl ?_
  have hrx1 := j_rng x1
  have hrx2 := j_rng x2
  have he : jeff [] V0 V0 := jeff.refl _ _
  obtain ⟨fs_a0, hO_a0, hK_a0⟩ := WT_obj hW id ha0
  have hF_v0 := hf_v0.get hO_a0
  have hrv0 : 0 ≤ v0.toInt ∧ v0.toInt ≤ 16 := jok_rngI hK_a0 rfl hF_v0
  have hF_gr := hr_gr.get hO_a0
  obtain ⟨w_gr, hFq_gr, b_gr, hbq_gr, hb_gr⟩ := hK_a0.2 1 (.inr (some (.inl 14))) rfl
  cases hF_gr.symm.trans (hFq_gr.trans (congrArg some hbq_gr))
  have hF_mn := hr_mn.get hO_a0
  obtain ⟨w_mn, hFq_mn, b_mn, hbq_mn, hb_mn⟩ := hK_a0.2 2 (.inr (some (.inl 15))) rfl
  cases hF_mn.symm.trans (hFq_mn.trans (congrArg some hbq_mn))
  have hF_sp := hr_sp.get hO_a0
  obtain ⟨w_sp, hFq_sp, b_sp, hbq_sp, hb_sp⟩ := hK_a0.2 3 (.inr (some (.inl 16))) rfl
  cases hF_sp.symm.trans (hFq_sp.trans (congrArg some hbq_sp))
  have hF_rw := hr_rw.get hO_a0
  obtain ⟨w_rw, hFq_rw, b_rw, hbq_rw, hb_rw⟩ := hK_a0.2 4 (.inr (some (.inl 17))) rfl
  cases hF_rw.symm.trans (hFq_rw.trans (congrArg some hbq_rw))
  have hF_px := hr_px.get hO_a0
  obtain ⟨w_px, hFq_px, b_px, hbq_px, hb_px⟩ := hK_a0.2 6 (.inr (some (.inl 18))) rfl
  cases hF_px.symm.trans (hFq_px.trans (congrArg some hbq_px))
  have hF_py := hr_py.get hO_a0
  obtain ⟨w_py, hFq_py, b_py, hbq_py, hb_py⟩ := hK_a0.2 7 (.inr (some (.inl 19))) rfl
  cases hF_py.symm.trans (hFq_py.trans (congrArg some hbq_py))
  have hF_pz := hr_pz.get hO_a0
  obtain ⟨w_pz, hFq_pz, b_pz, hbq_pz, hb_pz⟩ := hK_a0.2 8 (.inr (some (.inl 20))) rfl
  cases hF_pz.symm.trans (hFq_pz.trans (congrArg some hbq_pz))
  obtain ⟨hN_GA, hv_GA⟩ := WT_rngI (r := (0, 3)) hW id rfl ha_GA
  clear hN_GA
  obtain ⟨hN_MN, hv_MN⟩ := WT_rngI (r := (0, 60)) hW id rfl ha_MN
  clear hN_MN
  obtain ⟨hN_SP, hv_SP⟩ := WT_rngI (r := ((-2147483648), 2147483647)) hW id rfl ha_SP
  clear hN_SP
  obtain ⟨hN_RW, hv_RW⟩ := WT_rngI (r := ((-2147483648), 2147483647)) hW id rfl ha_RW
  clear hN_RW
  obtain ⟨hN_PX, hv_PX⟩ := WT_rngI (r := ((-2147483648), 2147483647)) hW id rfl ha_PX
  clear hN_PX
  obtain ⟨hN_PY, hv_PY⟩ := WT_rngI (r := ((-2147483648), 2147483647)) hW id rfl ha_PY
  clear hN_PY
  obtain ⟨hN_PZ, hv_PZ⟩ := WT_rngI (r := ((-2147483648), 2147483647)) hW id rfl ha_PZ
  clear hN_PZ
  refine J_aload_n dX7_join_0 rfl ?_
  refine J_iload_n dX7_join_1 rfl ?_
  refine Jw_callV1 (q9 := (RX7, TX7, 34)) moX7_isWalk jw_ml_X7_130 jw_im_X7_isWalk jw_se_X7_isWalk ha0 rfl rfl dX7_join_2 (w_X7_isWalk_z (d - 1) _ a0 x1 v0 (by omega) hW  ha0 ⟨_, hO_a0, hF_v0⟩) (by omega) (Nat.zero_le _) (Nat.zero_le _) (Nat.le_of_ble_eq_true rfl) (fun r2 V2 h2 => ?_)
  obtain ⟨⟨y2, rfl, hl2, hh2, hP2_0⟩, hE2⟩ := h2
  have hE2 := hE2.symm
  subst hE2
  refine Jz_if_eq (tgt := 16) jEq.rf dX7_join_5 (by decide) (fun c5 => ?_) (fun c5 => ?_)
  · refine Jz_bipush (-2) dX7_join_16 (by decide) (fun y16 he16 => ?_)
    exact J_ret (r := some (.int _)) dX7_join_18 ⟨rfl, _, rfl, rfl⟩ (⟨⟨_, rfl, (j_rng _).1, (j_rng _).2, (by (try simp only [he16.eq, true_and, and_true]) <;> omega)⟩, rfl⟩)
  · refine J_aload_n dX7_join_8 rfl ?_
    refine J_iload_n dX7_join_9 rfl ?_
    refine Jw_callV1 (q9 := (RX7, TX7, 34)) moX7_isWalk jw_ml_X7_130 jw_im_X7_isWalk jw_se_X7_isWalk ha0 rfl rfl dX7_join_10 (w_X7_isWalk_z (d - 1) _ a0 x2 v0 (by omega) hW  ha0 ⟨_, hO_a0, hF_v0⟩) (by omega) (Nat.zero_le _) (Nat.zero_le _) (Nat.le_of_ble_eq_true rfl) (fun r10 V10 h10 => ?_)
    obtain ⟨⟨y10, rfl, hl10, hh10, hP10_0⟩, hE10⟩ := h10
    have hE10 := hE10.symm
    subst hE10
    refine Jz_if_ne (tgt := 19) jEq.rf dX7_join_13 (by decide) (fun c13 => ?_) (fun c13 => ?_)
    · exact False.elim (by omega)
    · refine Jz_bipush (-2) dX7_join_16 (by decide) (fun y16 he16 => ?_)
      exact J_ret (r := some (.int _)) dX7_join_18 ⟨rfl, _, rfl, rfl⟩ (⟨⟨_, rfl, (j_rng _).1, (j_rng _).2, (by (try simp only [he16.eq, true_and, and_true]) <;> omega)⟩, rfl⟩)
set_option maxRecDepth 100000 in
set_option maxHeartbeats 8000000 in
theorem w_X7_join_dif {tS : jTS} (d : Nat) (V0 : jH) (a0 : Nat) (x1 : Int32) (x2 : Int32) (v0 : Int32) (gr : Nat) (mn : Nat) (sp : Nat) (rw : Nat) (px : Nat) (py : Nat) (pz : Nat) (GA : Nat → Int32) (MN : Nat → Int32) (SP : Nat → Int32) (RW : Nat → Int32) (PX : Nat → Int32) (PY : Nat → Int32) (PZ : Nat → Int32) (hd : 3 ≤ d) (hW : WT V0) (ha0 : jis V0 (.inr 5) a0) (hf_v0 : jfI V0 a0 5 0 v0) (hr_gr : jfR V0 a0 5 1 gr) (hr_mn : jfR V0 a0 5 2 mn) (hr_sp : jfR V0 a0 5 3 sp) (hr_rw : jfR V0 a0 5 4 rw) (hr_px : jfR V0 a0 5 6 px) (hr_py : jfR V0 a0 5 7 py) (hr_pz : jfR V0 a0 5 8 pz) (ha_GA : V0 gr = some (.inl (14, 16, .inl GA))) (ha_MN : V0 mn = some (.inl (15, 16, .inl MN))) (ha_SP : V0 sp = some (.inl (16, 960, .inl SP))) (ha_RW : V0 rw = some (.inl (17, 120, .inl RW))) (ha_PX : V0 px = some (.inl (18, 121, .inl PX))) (ha_PY : V0 py = some (.inl (19, 121, .inl PY))) (ha_PZ : V0 pz = some (.inl (20, 121, .inl PZ))) (hp0 : 0 ≤ x1.toInt) (hp1 : x1.toInt < v0.toInt) (hp2 : 0 ≤ x2.toInt) (hp3 : x2.toInt < v0.toInt) (hp4 : ¬ (GA x1.toInt.toNat).toInt = (GA x2.toInt.toNat).toInt) : jTot tS mX7_join d [.ref a0, .int x1, .int x2] V0 0 0 (fun r V => (fun r _ => ∃ y : Int32, r = some (.int y) ∧ ((-2147483648) ≤ y.toInt) ∧ (y.toInt ≤ 2147483647) ∧ (y.toInt = -3)) r V ∧ V = V0) := by
  refine jTot.of_J [some (.ref a0), some (.int x1), some (.int x2), none, none] moX7_join (Nat.le_of_ble_eq_true rfl) rfl ?_
  have hrx1 := j_rng x1
  have hrx2 := j_rng x2
  have he : jeff [] V0 V0 := jeff.refl _ _
  obtain ⟨fs_a0, hO_a0, hK_a0⟩ := WT_obj hW id ha0
  have hF_v0 := hf_v0.get hO_a0
  have hrv0 : 0 ≤ v0.toInt ∧ v0.toInt ≤ 16 := jok_rngI hK_a0 rfl hF_v0
  have hF_gr := hr_gr.get hO_a0
  obtain ⟨w_gr, hFq_gr, b_gr, hbq_gr, hb_gr⟩ := hK_a0.2 1 (.inr (some (.inl 14))) rfl
  cases hF_gr.symm.trans (hFq_gr.trans (congrArg some hbq_gr))
  have hF_mn := hr_mn.get hO_a0
  obtain ⟨w_mn, hFq_mn, b_mn, hbq_mn, hb_mn⟩ := hK_a0.2 2 (.inr (some (.inl 15))) rfl
  cases hF_mn.symm.trans (hFq_mn.trans (congrArg some hbq_mn))
  have hF_sp := hr_sp.get hO_a0
  obtain ⟨w_sp, hFq_sp, b_sp, hbq_sp, hb_sp⟩ := hK_a0.2 3 (.inr (some (.inl 16))) rfl
  cases hF_sp.symm.trans (hFq_sp.trans (congrArg some hbq_sp))
  have hF_rw := hr_rw.get hO_a0
  obtain ⟨w_rw, hFq_rw, b_rw, hbq_rw, hb_rw⟩ := hK_a0.2 4 (.inr (some (.inl 17))) rfl
  cases hF_rw.symm.trans (hFq_rw.trans (congrArg some hbq_rw))
  have hF_px := hr_px.get hO_a0
  obtain ⟨w_px, hFq_px, b_px, hbq_px, hb_px⟩ := hK_a0.2 6 (.inr (some (.inl 18))) rfl
  cases hF_px.symm.trans (hFq_px.trans (congrArg some hbq_px))
  have hF_py := hr_py.get hO_a0
  obtain ⟨w_py, hFq_py, b_py, hbq_py, hb_py⟩ := hK_a0.2 7 (.inr (some (.inl 19))) rfl
  cases hF_py.symm.trans (hFq_py.trans (congrArg some hbq_py))
  have hF_pz := hr_pz.get hO_a0
  obtain ⟨w_pz, hFq_pz, b_pz, hbq_pz, hb_pz⟩ := hK_a0.2 8 (.inr (some (.inl 20))) rfl
  cases hF_pz.symm.trans (hFq_pz.trans (congrArg some hbq_pz))
  obtain ⟨hN_GA, hv_GA⟩ := WT_rngI (r := (0, 3)) hW id rfl ha_GA
  clear hN_GA
  obtain ⟨hN_MN, hv_MN⟩ := WT_rngI (r := (0, 60)) hW id rfl ha_MN
  clear hN_MN
  obtain ⟨hN_SP, hv_SP⟩ := WT_rngI (r := ((-2147483648), 2147483647)) hW id rfl ha_SP
  clear hN_SP
  obtain ⟨hN_RW, hv_RW⟩ := WT_rngI (r := ((-2147483648), 2147483647)) hW id rfl ha_RW
  clear hN_RW
  obtain ⟨hN_PX, hv_PX⟩ := WT_rngI (r := ((-2147483648), 2147483647)) hW id rfl ha_PX
  clear hN_PX
  obtain ⟨hN_PY, hv_PY⟩ := WT_rngI (r := ((-2147483648), 2147483647)) hW id rfl ha_PY
  clear hN_PY
  obtain ⟨hN_PZ, hv_PZ⟩ := WT_rngI (r := ((-2147483648), 2147483647)) hW id rfl ha_PZ
  clear hN_PZ
  refine J_aload_n dX7_join_0 rfl ?_
  refine J_iload_n dX7_join_1 rfl ?_
  refine Jw_callV1 (q9 := (RX7, TX7, 34)) moX7_isWalk jw_ml_X7_130 jw_im_X7_isWalk jw_se_X7_isWalk ha0 rfl rfl dX7_join_2 (w_X7_isWalk_z (d - 1) _ a0 x1 v0 (by omega) hW  ha0 ⟨_, hO_a0, hF_v0⟩) (by omega) (Nat.zero_le _) (Nat.zero_le _) (Nat.le_of_ble_eq_true rfl) (fun r2 V2 h2 => ?_)
  obtain ⟨⟨y2, rfl, hl2, hh2, hP2_0⟩, hE2⟩ := h2
  have hE2 := hE2.symm
  subst hE2
  refine Jz_if_eq (tgt := 16) jEq.rf dX7_join_5 (by decide) (fun c5 => ?_) (fun c5 => ?_)
  · exact False.elim (by omega)
  · refine J_aload_n dX7_join_8 rfl ?_
    refine J_iload_n dX7_join_9 rfl ?_
    refine Jw_callV1 (q9 := (RX7, TX7, 34)) moX7_isWalk jw_ml_X7_130 jw_im_X7_isWalk jw_se_X7_isWalk ha0 rfl rfl dX7_join_10 (w_X7_isWalk_z (d - 1) _ a0 x2 v0 (by omega) hW  ha0 ⟨_, hO_a0, hF_v0⟩) (by omega) (Nat.zero_le _) (Nat.zero_le _) (Nat.le_of_ble_eq_true rfl) (fun r10 V10 h10 => ?_)
    obtain ⟨⟨y10, rfl, hl10, hh10, hP10_0⟩, hE10⟩ := h10
    have hE10 := hE10.symm
    subst hE10
    refine Jz_if_ne (tgt := 19) jEq.rf dX7_join_13 (by decide) (fun c13 => ?_) (fun c13 => ?_)
    · refine J_aload_n dX7_join_19 rfl ?_
      refine J_get jf_X7_7 dX7_join_20 hO_a0 hF_gr ?_
      refine J_iload_n dX7_join_23 rfl ?_
      refine Jz_iald (r := (0, 3)) jEq.rf dX7_join_24 ha_GA rfl hv_GA (by omega) (by omega) (fun y24 hf24 hl24 hh24 => ?_)
      dsimp only at hl24 hh24
      have hq24 : (GA x1.toInt.toNat).toInt = y24.toInt := by rw [hf24]
      refine J_aload_n dX7_join_25 rfl ?_
      refine J_get jf_X7_7 dX7_join_26 hO_a0 hF_gr ?_
      refine J_iload_n dX7_join_29 rfl ?_
      refine Jz_iald (r := (0, 3)) jEq.rf dX7_join_30 ha_GA rfl hv_GA (by omega) (by omega) (fun y30 hf30 hl30 hh30 => ?_)
      dsimp only at hl30 hh30
      have hq30 : (GA x2.toInt.toNat).toInt = y30.toInt := by rw [hf30]
      refine Jz_icmp_eq (tgt := 37) jEq.rf jEq.rf dX7_join_31 (by decide) (fun c31 => ?_) (fun c31 => ?_)
      · exact False.elim (by omega)
      · refine Jz_bipush (-3) dX7_join_34 (by decide) (fun y34 he34 => ?_)
        exact J_ret (r := some (.int _)) dX7_join_36 ⟨rfl, _, rfl, rfl⟩ (⟨⟨_, rfl, (j_rng _).1, (j_rng _).2, (by (try simp only [he34.eq, true_and, and_true]) <;> omega)⟩, rfl⟩)
    · exact False.elim (by omega)
set_option maxRecDepth 100000 in
set_option maxHeartbeats 8000000 in
theorem w_X7_join_no {tS : jTS} (d : Nat) (V0 : jH) (a0 : Nat) (x1 : Int32) (x2 : Int32) (v0 : Int32) (gr : Nat) (mn : Nat) (sp : Nat) (rw : Nat) (px : Nat) (py : Nat) (pz : Nat) (GA : Nat → Int32) (MN : Nat → Int32) (SP : Nat → Int32) (RW : Nat → Int32) (PX : Nat → Int32) (PY : Nat → Int32) (PZ : Nat → Int32) (hd : 3 ≤ d) (hW : WT V0) (ha0 : jis V0 (.inr 5) a0) (hf_v0 : jfI V0 a0 5 0 v0) (hr_gr : jfR V0 a0 5 1 gr) (hr_mn : jfR V0 a0 5 2 mn) (hr_sp : jfR V0 a0 5 3 sp) (hr_rw : jfR V0 a0 5 4 rw) (hr_px : jfR V0 a0 5 6 px) (hr_py : jfR V0 a0 5 7 py) (hr_pz : jfR V0 a0 5 8 pz) (ha_GA : V0 gr = some (.inl (14, 16, .inl GA))) (ha_MN : V0 mn = some (.inl (15, 16, .inl MN))) (ha_SP : V0 sp = some (.inl (16, 960, .inl SP))) (ha_RW : V0 rw = some (.inl (17, 120, .inl RW))) (ha_PX : V0 px = some (.inl (18, 121, .inl PX))) (ha_PY : V0 py = some (.inl (19, 121, .inl PY))) (ha_PZ : V0 pz = some (.inl (20, 121, .inl PZ))) (hp0 : 0 ≤ x1.toInt) (hp1 : x1.toInt < v0.toInt) (hp2 : 0 ≤ x2.toInt) (hp3 : x2.toInt < v0.toInt) (hp4 : (GA x1.toInt.toNat).toInt = (GA x2.toInt.toNat).toInt) (hp5 : ¬ jav (GA x1.toInt.toNat).toInt (jTj (fun q => (SP (60 * x1.toInt.toNat + q)).toInt) (MN x1.toInt.toNat).toInt.toNat (fun q => (SP (60 * x2.toInt.toNat + q)).toInt)) ((MN x1.toInt.toNat).toInt + (MN x2.toInt.toNat).toInt).toNat) : jTot tS mX7_join d [.ref a0, .int x1, .int x2] V0 0 0 (fun r V => (jPost [.inr 5, .inl 17, .inl 18, .inl 19, .inl 20] V0 (fun r _ => ∃ y : Int32, r = some (.int y) ∧ ((-2147483648) ≤ y.toInt) ∧ (y.toInt ≤ 2147483647) ∧ (y.toInt = -3))) r V ∧ jkc 5 [0, 23, 24] V0 V) := by
  refine jTot.of_J [some (.ref a0), some (.int x1), some (.int x2), none, none] moX7_join (Nat.le_of_ble_eq_true rfl) rfl ?_
  have hrx1 := j_rng x1
  have hrx2 := j_rng x2
  have he : jeff [.inr 5, .inl 17, .inl 18, .inl 19, .inl 20] V0 V0 := jeff.refl _ _
  have hkp : jkc 5 [0, 23, 24] V0 V0 := jkc.rf
  obtain ⟨fs_a0, hO_a0, hK_a0⟩ := WT_obj hW id ha0
  have hF_v0 := hf_v0.get hO_a0
  have hrv0 : 0 ≤ v0.toInt ∧ v0.toInt ≤ 16 := jok_rngI hK_a0 rfl hF_v0
  have hF_gr := hr_gr.get hO_a0
  obtain ⟨w_gr, hFq_gr, b_gr, hbq_gr, hb_gr⟩ := hK_a0.2 1 (.inr (some (.inl 14))) rfl
  cases hF_gr.symm.trans (hFq_gr.trans (congrArg some hbq_gr))
  have hF_mn := hr_mn.get hO_a0
  obtain ⟨w_mn, hFq_mn, b_mn, hbq_mn, hb_mn⟩ := hK_a0.2 2 (.inr (some (.inl 15))) rfl
  cases hF_mn.symm.trans (hFq_mn.trans (congrArg some hbq_mn))
  have hF_sp := hr_sp.get hO_a0
  obtain ⟨w_sp, hFq_sp, b_sp, hbq_sp, hb_sp⟩ := hK_a0.2 3 (.inr (some (.inl 16))) rfl
  cases hF_sp.symm.trans (hFq_sp.trans (congrArg some hbq_sp))
  have hF_rw := hr_rw.get hO_a0
  obtain ⟨w_rw, hFq_rw, b_rw, hbq_rw, hb_rw⟩ := hK_a0.2 4 (.inr (some (.inl 17))) rfl
  cases hF_rw.symm.trans (hFq_rw.trans (congrArg some hbq_rw))
  have hF_px := hr_px.get hO_a0
  obtain ⟨w_px, hFq_px, b_px, hbq_px, hb_px⟩ := hK_a0.2 6 (.inr (some (.inl 18))) rfl
  cases hF_px.symm.trans (hFq_px.trans (congrArg some hbq_px))
  have hF_py := hr_py.get hO_a0
  obtain ⟨w_py, hFq_py, b_py, hbq_py, hb_py⟩ := hK_a0.2 7 (.inr (some (.inl 19))) rfl
  cases hF_py.symm.trans (hFq_py.trans (congrArg some hbq_py))
  have hF_pz := hr_pz.get hO_a0
  obtain ⟨w_pz, hFq_pz, b_pz, hbq_pz, hb_pz⟩ := hK_a0.2 8 (.inr (some (.inl 20))) rfl
  cases hF_pz.symm.trans (hFq_pz.trans (congrArg some hbq_pz))
  obtain ⟨hN_GA, hv_GA⟩ := WT_rngI (r := (0, 3)) hW id rfl ha_GA
  clear hN_GA
  obtain ⟨hN_MN, hv_MN⟩ := WT_rngI (r := (0, 60)) hW id rfl ha_MN
  clear hN_MN
  obtain ⟨hN_SP, hv_SP⟩ := WT_rngI (r := ((-2147483648), 2147483647)) hW id rfl ha_SP
  clear hN_SP
  obtain ⟨hN_RW, hv_RW⟩ := WT_rngI (r := ((-2147483648), 2147483647)) hW id rfl ha_RW
  clear hN_RW
  obtain ⟨hN_PX, hv_PX⟩ := WT_rngI (r := ((-2147483648), 2147483647)) hW id rfl ha_PX
  clear hN_PX
  obtain ⟨hN_PY, hv_PY⟩ := WT_rngI (r := ((-2147483648), 2147483647)) hW id rfl ha_PY
  clear hN_PY
  obtain ⟨hN_PZ, hv_PZ⟩ := WT_rngI (r := ((-2147483648), 2147483647)) hW id rfl ha_PZ
  clear hN_PZ
  refine J_aload_n dX7_join_0 rfl ?_
  refine J_iload_n dX7_join_1 rfl ?_
  refine Jw_callV1 (q9 := (RX7, TX7, 34)) moX7_isWalk jw_ml_X7_130 jw_im_X7_isWalk jw_se_X7_isWalk ha0 rfl rfl dX7_join_2 (w_X7_isWalk_z (d - 1) _ a0 x1 v0 (by omega) hW  ha0 ⟨_, hO_a0, hF_v0⟩) (by omega) (Nat.zero_le _) (Nat.zero_le _) (Nat.le_of_ble_eq_true rfl) (fun r2 V2 h2 => ?_)
  obtain ⟨⟨y2, rfl, hl2, hh2, hP2_0⟩, hE2⟩ := h2
  have hE2 := hE2.symm
  subst hE2
  refine Jz_if_eq (tgt := 16) jEq.rf dX7_join_5 (by decide) (fun c5 => ?_) (fun c5 => ?_)
  · exact False.elim (by omega)
  · refine J_aload_n dX7_join_8 rfl ?_
    refine J_iload_n dX7_join_9 rfl ?_
    refine Jw_callV1 (q9 := (RX7, TX7, 34)) moX7_isWalk jw_ml_X7_130 jw_im_X7_isWalk jw_se_X7_isWalk ha0 rfl rfl dX7_join_10 (w_X7_isWalk_z (d - 1) _ a0 x2 v0 (by omega) hW  ha0 ⟨_, hO_a0, hF_v0⟩) (by omega) (Nat.zero_le _) (Nat.zero_le _) (Nat.le_of_ble_eq_true rfl) (fun r10 V10 h10 => ?_)
    obtain ⟨⟨y10, rfl, hl10, hh10, hP10_0⟩, hE10⟩ := h10
    have hE10 := hE10.symm
    subst hE10
    refine Jz_if_ne (tgt := 19) jEq.rf dX7_join_13 (by decide) (fun c13 => ?_) (fun c13 => ?_)
    · refine J_aload_n dX7_join_19 rfl ?_
      refine J_get jf_X7_7 dX7_join_20 hO_a0 hF_gr ?_
      refine J_iload_n dX7_join_23 rfl ?_
      refine Jz_iald (r := (0, 3)) jEq.rf dX7_join_24 ha_GA rfl hv_GA (by omega) (by omega) (fun y24 hf24 hl24 hh24 => ?_)
      dsimp only at hl24 hh24
      have hq24 : (GA x1.toInt.toNat).toInt = y24.toInt := by rw [hf24]
      refine J_aload_n dX7_join_25 rfl ?_
      refine J_get jf_X7_7 dX7_join_26 hO_a0 hF_gr ?_
      refine J_iload_n dX7_join_29 rfl ?_
      refine Jz_iald (r := (0, 3)) jEq.rf dX7_join_30 ha_GA rfl hv_GA (by omega) (by omega) (fun y30 hf30 hl30 hh30 => ?_)
      dsimp only at hl30 hh30
      have hq30 : (GA x2.toInt.toNat).toInt = y30.toInt := by rw [hf30]
      refine Jz_icmp_eq (tgt := 37) jEq.rf jEq.rf dX7_join_31 (by decide) (fun c31 => ?_) (fun c31 => ?_)
      · refine J_aload_n dX7_join_37 rfl ?_
        refine J_iload_n dX7_join_38 rfl ?_
        have hmr := hv_MN x1.toInt.toNat (by omega)
        dsimp only at hmr
        have hmr2 := hv_MN x2.toInt.toNat (by omega)
        dsimp only at hmr2
        refine Jw_callV1 (q9 := (RX7, TX7, 34)) moX7_brings jw_ml_X7_137 jw_im_X7_brings jw_se_X7_brings ha0 rfl rfl dX7_join_39 (w_X7_brings_z (d - 1) _ a0 x1 mn sp rw MN SP RW (by omega) hW  ha0 ⟨_, hO_a0, hF_mn⟩ ⟨_, hO_a0, hF_sp⟩ ⟨_, hO_a0, hF_rw⟩ ha_MN ha_SP ha_RW (by omega) (by omega)) (by omega) (Nat.zero_le _) (Nat.zero_le _) (Nat.le_of_ble_eq_true rfl) (fun r39 V39 h39 => ?_)
        obtain ⟨h39, hX39_0, hX39_1, ⟨fv39_0, hfv39_0, hfp39_0⟩⟩ := h39
        obtain ⟨hW, hx39, hr39⟩ := h39
        have he := he.trans (hx39.sub (jsub_of rfl))
        have hkp := hkp.trans hX39_1
        have ha0 := ha0.mono hx39.1
        have hb_gr := hb_gr.mono hx39.1
        have hb_mn := hb_mn.mono hx39.1
        have hb_sp := hb_sp.mono hx39.1
        have hb_rw := hb_rw.mono hx39.1
        have hb_px := hb_px.mono hx39.1
        have hb_py := hb_py.mono hx39.1
        have hb_pz := hb_pz.mono hx39.1
        obtain ⟨fs39a0, hOfs39a0, hRfs39a0⟩ := hx39.1.keep hO_a0
        have hKfs39a0 : jokO _ (jFs 5) fs39a0 := hW _ _ id hOfs39a0
        have hFfs39a0_1 := hRfs39a0 _ _ hF_gr
        have hFfs39a0_2 := hRfs39a0 _ _ hF_mn
        have hFfs39a0_3 := hRfs39a0 _ _ hF_sp
        have hFfs39a0_4 := hRfs39a0 _ _ hF_rw
        have hFfs39a0_6 := hRfs39a0 _ _ hF_px
        have hFfs39a0_7 := hRfs39a0 _ _ hF_py
        have hFfs39a0_8 := hRfs39a0 _ _ hF_pz
        have ha_GA := hx39.2 _ _ ha_GA (jnot_of rfl)
        have ha_MN := hx39.2 _ _ ha_MN (jnot_of rfl)
        have ha_SP := hx39.2 _ _ ha_SP (jnot_of rfl)
        have ha_PX := hx39.2 _ _ ha_PX (jnot_of rfl)
        have ha_PY := hx39.2 _ _ ha_PY (jnot_of rfl)
        have ha_PZ := hx39.2 _ _ ha_PZ (jnot_of rfl)
        cases hr39
        have hFv39_0 := hfv39_0.get hOfs39a0
        have hzf39_0 : jEq fv39_0.toInt ((MN (x1.toInt).toNat).toInt) := hfp39_0
        clear hfp39_0
        obtain ⟨R2, hR2, hRe⟩ := hX39_0
        obtain ⟨hN_R2, hv_R2⟩ := WT_rngI (r := ((-2147483648), 2147483647)) hW id rfl hR2
        clear hN_R2
        refine J_aload_n dX7_join_42 rfl ?_
        refine J_get jf_X7_13 dX7_join_43 hOfs39a0 hFfs39a0_2 ?_
        refine J_iload_n dX7_join_46 rfl ?_
        refine Jz_iald (r := (0, 60)) jEq.rf dX7_join_47 ha_MN rfl hv_MN (by omega) (by omega) (fun y47 hf47 hl47 hh47 => ?_)
        dsimp only at hl47 hh47
        have hq47 : (MN x2.toInt.toNat).toInt = y47.toInt := by rw [hf47]
        refine J_istore_n dX7_join_48 rfl (by decide) ?_
        refine Jz_iconst 0 dX7_join_49 (by decide) (fun y49 he49 => ?_)
        refine J_istore dX7_join_50 rfl (by decide) ?_
        have L52 : ∀ (N : Nat) (V : jH) (i4n52 : Int32) (gs52a0 : List Value) (g5n52 : Int32) (F17n52 : Nat → Int32), WT V → jeff [.inr 5, .inl 17, .inl 18, .inl 19, .inl 20] V0 V → (jis V (.inr 5) a0) → (jis V (.inl 14) gr) → (jis V (.inl 15) mn) → (jis V (.inl 16) sp) → (jis V (.inl 17) rw) → (jis V (.inl 18) px) → (jis V (.inl 19) py) → (jis V (.inl 20) pz) → (jkc 5 [0, 23, 24] V0 V) → (V a0 = some (.inr (5, gs52a0))) → (gs52a0[1]? = some (.ref gr)) → (gs52a0[2]? = some (.ref mn)) → (gs52a0[3]? = some (.ref sp)) → (gs52a0[4]? = some (.ref rw)) → (gs52a0[6]? = some (.ref px)) → (gs52a0[7]? = some (.ref py)) → (gs52a0[8]? = some (.ref pz)) → (gs52a0[5]? = some (.int g5n52)) → (V rw = some (.inl (17, 120, .inl F17n52))) → (V gr = some (.inl (14, 16, .inl GA))) → (V mn = some (.inl (15, 16, .inl MN))) → (V sp = some (.inl (16, 960, .inl SP))) → (V px = some (.inl (18, 121, .inl PX))) → (V py = some (.inl (19, 121, .inl PY))) → (V pz = some (.inl (20, 121, .inl PZ))) → (0 ≤ i4n52.toInt ∧ i4n52.toInt ≤ (MN x2.toInt.toNat).toInt) → (g5n52.toInt = (MN x1.toInt.toNat).toInt + i4n52.toInt) → (∀ j : Nat, (j : Int) < (MN x1.toInt.toNat).toInt + i4n52.toInt → (F17n52 j).toInt = (jTj (fun q => (SP (60 * x1.toInt.toNat + q)).toInt) (MN x1.toInt.toNat).toInt.toNat (fun q => (SP (60 * x2.toInt.toNat + q)).toInt)) j) → (300 - i4n52.toInt).toNat < N → J tS mX7_join d 52 [some (.ref a0), some (.int x1), some (.int x2), some (.int y47), some (.int i4n52)] [] V 0 0 (fun r V => (jPost [.inr 5, .inl 17, .inl 18, .inl 19, .inl 20] V0 (fun r _ => ∃ y : Int32, r = some (.int y) ∧ ((-2147483648) ≤ y.toInt) ∧ (y.toInt ≤ 2147483647) ∧ (y.toInt = -3))) r V ∧ jkc 5 [0, 23, 24] V0 V) := by
          intro N
          induction N with
          | zero => intro V i4n52 gs52a0 g5n52 F17n52 hW he ha0 hb_gr hb_mn hb_sp hb_rw hb_px hb_py hb_pz hkp hOgs52a0 hFgs52a0_1 hFgs52a0_2 hFgs52a0_3 hFgs52a0_4 hFgs52a0_6 hFgs52a0_7 hFgs52a0_8 hFgs52a0_5 hAF17n52 ha_GA ha_MN ha_SP ha_PX ha_PY ha_PZ hi4 hrl hra hm; exact absurd hm (Nat.not_lt_zero _)
          | succ N ih =>
            intro V i4n52 gs52a0 g5n52 F17n52 hW he ha0 hb_gr hb_mn hb_sp hb_rw hb_px hb_py hb_pz hkp hOgs52a0 hFgs52a0_1 hFgs52a0_2 hFgs52a0_3 hFgs52a0_4 hFgs52a0_6 hFgs52a0_7 hFgs52a0_8 hFgs52a0_5 hAF17n52 ha_GA ha_MN ha_SP ha_PX ha_PY ha_PZ hi4 hrl hra hm
            have ih52 := ih
            have hri4 := j_rng i4n52
            have hKgs52a0 : jokO V (jFs 5) gs52a0 := hW _ _ id hOgs52a0
            have hrgg5n52 : 0 ≤ g5n52.toInt ∧ g5n52.toInt ≤ 120 := jok_rngI hKgs52a0 rfl hFgs52a0_5
            obtain ⟨hNF17n52, hvF17n52⟩ := WT_rngI (r := ((-2147483648), 2147483647)) hW id rfl hAF17n52
            clear hNF17n52
            refine J_iload dX7_join_52 rfl ?_
            refine J_iload_n dX7_join_54 rfl ?_
            refine Jz_icmp_ge (tgt := 95) jEq.rf jEq.rf dX7_join_55 (by decide) (fun c55 => ?_) (fun c55 => ?_)
            · refine J_aload_n dX7_join_95 rfl ?_
              refine J_iload_n dX7_join_96 rfl ?_
              refine Jw_callV1 (q9 := (RX7, TX7, 34)) moX7_becomes jw_ml_X7_140 jw_im_X7_becomes jw_se_X7_becomes ha0 rfl rfl dX7_join_97 (w_X7_becomes_no (d - 1) _ a0 x1 g5n52 gr mn sp rw px py pz GA MN SP F17n52 PX PY PZ (by omega) hW  ha0 ⟨_, hOgs52a0, hFgs52a0_5⟩ ⟨_, hOgs52a0, hFgs52a0_1⟩ ⟨_, hOgs52a0, hFgs52a0_2⟩ ⟨_, hOgs52a0, hFgs52a0_3⟩ ⟨_, hOgs52a0, hFgs52a0_4⟩ ⟨_, hOgs52a0, hFgs52a0_6⟩ ⟨_, hOgs52a0, hFgs52a0_7⟩ ⟨_, hOgs52a0, hFgs52a0_8⟩ ha_GA ha_MN ha_SP hAF17n52 ha_PX ha_PY ha_PZ (by omega) (by omega) (fun h => hp5 (by rw [show g5n52.toInt = ((MN x1.toInt.toNat).toInt + (MN x2.toInt.toNat).toInt) by omega] at h; exact h.congr (fun k hk => hra k (by omega))))) (by omega) (Nat.zero_le _) (Nat.zero_le _) (Nat.le_of_ble_eq_true rfl) (fun r97 V97 h97 => ?_)
              obtain ⟨hW, hx97, hr97⟩ := h97
              have he := he.trans (hx97.sub (jsub_of rfl))
              have hkp := hkp.trans (jkc.of hx97 (jnot_of rfl))
              have ha0 := ha0.mono hx97.1
              have hb_gr := hb_gr.mono hx97.1
              have hb_mn := hb_mn.mono hx97.1
              have hb_sp := hb_sp.mono hx97.1
              have hb_rw := hb_rw.mono hx97.1
              have hb_px := hb_px.mono hx97.1
              have hb_py := hb_py.mono hx97.1
              have hb_pz := hb_pz.mono hx97.1
              have hOgs52a0 := hx97.2 _ _ hOgs52a0 (jnot_of rfl)
              have hKgs52a0 := hKgs52a0.mono hx97.1
              have hAF17n52 := hx97.2 _ _ hAF17n52 (jnot_of rfl)
              have ha_GA := hx97.2 _ _ ha_GA (jnot_of rfl)
              have ha_MN := hx97.2 _ _ ha_MN (jnot_of rfl)
              have ha_SP := hx97.2 _ _ ha_SP (jnot_of rfl)
              obtain ⟨y97, rfl, hl97, hh97, hP97_0⟩ := hr97
              clear hl97 hh97
              exact J_ret (r := some (.int _)) dX7_join_100 ⟨rfl, _, rfl, rfl⟩ (⟨⟨hW, he, ⟨_, rfl, (j_rng _).1, (j_rng _).2, (by omega)⟩⟩, hkp⟩)
            · refine J_aload_n dX7_join_58 rfl ?_
              refine J_get jf_X7_19 dX7_join_59 hOgs52a0 hFgs52a0_4 ?_
              refine J_aload_n dX7_join_62 rfl ?_
              refine J_get jf_X7_109 dX7_join_63 hOgs52a0 hFgs52a0_5 ?_
              refine J_aload_n dX7_join_66 rfl ?_
              refine J_get jf_X7_16 dX7_join_67 hOgs52a0 hFgs52a0_3 ?_
              refine Jz_bipush 60 dX7_join_70 (by decide) (fun y70 he70 => ?_)
              refine J_iload_n dX7_join_72 rfl ?_
              refine Jz_imul he70 jEq.rf dX7_join_73 (by omega) (by omega) (fun y73 he73 => ?_)
              refine J_iload dX7_join_74 rfl ?_
              refine Jz_iadd he73 jEq.rf dX7_join_76 (by omega) (by omega) (fun y76 he76 => ?_)
              refine Jz_iald (r := ((-2147483648), 2147483647)) he76 dX7_join_77 ha_SP rfl hv_SP (by omega) (by omega) (fun y77 hf77 hl77 hh77 => ?_)
              dsimp only at hl77 hh77
              clear hl77 hh77
              refine Jz_iast (r := ((-2147483648), 2147483647)) jEq.rf jEq.rf hW id dX7_join_78 hAF17n52 rfl rfl (by omega) (by omega) (j_rng _).1 (j_rng _).2 (fun V78 G78 hW hx78 hA78 hp78 ho78 => ?_)
              obtain ⟨hN78, hv78⟩ := WT_rngI (r := ((-2147483648), 2147483647)) hW id rfl hA78
              clear hN78
              have he := he.trans (hx78.sub (jsub_of rfl))
              have hkp := hkp.trans (jkc.of hx78 (jnot_of rfl))
              have ha0 := ha0.mono hx78.1
              have hb_gr := hb_gr.mono hx78.1
              have hb_mn := hb_mn.mono hx78.1
              have hb_sp := hb_sp.mono hx78.1
              have hb_rw := hb_rw.mono hx78.1
              have hb_px := hb_px.mono hx78.1
              have hb_py := hb_py.mono hx78.1
              have hb_pz := hb_pz.mono hx78.1
              have hOgs52a0 := hx78.2 _ _ hOgs52a0 (jnot_of rfl)
              have hKgs52a0 := hKgs52a0.mono hx78.1
              have ha_GA := hx78.2 _ _ ha_GA (jnot_of rfl)
              have ha_MN := hx78.2 _ _ ha_MN (jnot_of rfl)
              have ha_SP := hx78.2 _ _ ha_SP (jnot_of rfl)
              have ha_PX := hx78.2 _ _ ha_PX (jnot_of rfl)
              have ha_PY := hx78.2 _ _ ha_PY (jnot_of rfl)
              have ha_PZ := hx78.2 _ _ ha_PZ (jnot_of rfl)
              refine J_aload_n dX7_join_79 rfl ?_
              refine J_dup dX7_join_80 rfl ?_
              refine J_get jf_X7_109 dX7_join_81 hOgs52a0 hFgs52a0_5 ?_
              refine Jz_iconst 1 dX7_join_84 (by decide) (fun y84 he84 => ?_)
              refine Jz_iadd jEq.rf he84 dX7_join_85 (by omega) (by omega) (fun y85 he85 => ?_)
              refine Jz_putI hOgs52a0 hW id rfl jf_X7_109 jt_X7_5 he85 dX7_join_86 (by omega) (by omega) (fun _ _ => ⟨rfl, rfl⟩) (fun V86 fs86 hW hx86 hO86 hS86 hT86 hB86 => ?_)
              have hK86 : jokO _ (jFs 5) fs86 := hW _ _ id hO86
              have hF86_1 := (hT86 1 (by decide)).trans hFgs52a0_1
              have hF86_2 := (hT86 2 (by decide)).trans hFgs52a0_2
              have hF86_3 := (hT86 3 (by decide)).trans hFgs52a0_3
              have hF86_4 := (hT86 4 (by decide)).trans hFgs52a0_4
              have hF86_6 := (hT86 6 (by decide)).trans hFgs52a0_6
              have hF86_7 := (hT86 7 (by decide)).trans hFgs52a0_7
              have hF86_8 := (hT86 8 (by decide)).trans hFgs52a0_8
              have he := he.trans (hx86.sub (jsub_of rfl))
              have hkp := hkp.trans (jkc.put hOgs52a0 hO86 hT86 hB86 (by decide))
              have ha0 := ha0.mono hx86.1
              have hb_gr := hb_gr.mono hx86.1
              have hb_mn := hb_mn.mono hx86.1
              have hb_sp := hb_sp.mono hx86.1
              have hb_rw := hb_rw.mono hx86.1
              have hb_px := hb_px.mono hx86.1
              have hb_py := hb_py.mono hx86.1
              have hb_pz := hb_pz.mono hx86.1
              have ha_GA := hx86.2 _ _ ha_GA (jnot_of rfl)
              have ha_MN := hx86.2 _ _ ha_MN (jnot_of rfl)
              have ha_SP := hx86.2 _ _ ha_SP (jnot_of rfl)
              have ha_PX := hx86.2 _ _ ha_PX (jnot_of rfl)
              have ha_PY := hx86.2 _ _ ha_PY (jnot_of rfl)
              have ha_PZ := hx86.2 _ _ ha_PZ (jnot_of rfl)
              have hA78 := hx86.2 _ _ hA78 (jnot_of rfl)
              refine Jz_iinc 1 dX7_join_89 rfl rfl (by decide) jEq.rf (by decide) (by omega) (by omega) (fun y89 he89 => ?_)
              refine J_goto (tgt := 52) dX7_join_92 (by decide) ?_
              refine J.mask [true, true, true, true, true] ?_
              exact ih52 _ y89 fs86 y85 G78 hW he ha0 hb_gr hb_mn hb_sp hb_rw hb_px hb_py hb_pz hkp hO86 hF86_1 hF86_2 hF86_3 hF86_4 hF86_6 hF86_7 hF86_8 hS86 hA78 ha_GA ha_MN ha_SP ha_PX ha_PY ha_PZ (by (try simp only [he89.eq, he85.eq, true_and, and_true]) <;> omega) (by (try simp only [he89.eq, he85.eq, true_and, and_true]) <;> omega) (fun j hj => by rw [he89.eq] at hj; by_cases h9 : (j : Int) = g5n52.toInt; (have e : j = g5n52.toInt.toNat := by omega); subst e; rw [hp78, ← hf77]; unfold jTj; rw [if_neg (by omega)]; exact congrArg (fun z => (SP z).toInt) (by omega); rw [ho78 j (by omega)]; exact hra j (by omega)) (by (try simp only [he89.eq, he85.eq, true_and, and_true]) <;> omega)
        refine J.mask [true, true, true, true, true] ?_
        exact L52 _ _ y49 fs39a0 fv39_0 R2 hW he ha0 hb_gr hb_mn hb_sp hb_rw hb_px hb_py hb_pz hkp hOfs39a0 hFfs39a0_1 hFfs39a0_2 hFfs39a0_3 hFfs39a0_4 hFfs39a0_6 hFfs39a0_7 hFfs39a0_8 hFv39_0 hR2 ha_GA ha_MN ha_SP ha_PX ha_PY ha_PZ (by (try simp only [he49.eq, hzf39_0.eq, true_and, and_true]) <;> omega) (by (try simp only [he49.eq, hzf39_0.eq, true_and, and_true]) <;> omega) (fun j hj => by rw [he49.eq] at hj; rw [hRe j (by omega)]; unfold jTj; rw [if_pos (by omega)]) (Nat.lt_succ_self _)
      · exact False.elim (by omega)
    · exact False.elim (by omega)
set_option maxRecDepth 100000 in
set_option maxHeartbeats 8000000 in
theorem w_X7_join_full {tS : jTS} (d : Nat) (V0 : jH) (a0 : Nat) (x1 : Int32) (x2 : Int32) (v0 : Int32) (gr : Nat) (mn : Nat) (sp : Nat) (rw : Nat) (px : Nat) (py : Nat) (pz : Nat) (GA : Nat → Int32) (MN : Nat → Int32) (SP : Nat → Int32) (RW : Nat → Int32) (PX : Nat → Int32) (PY : Nat → Int32) (PZ : Nat → Int32) (hd : 3 ≤ d) (hW : WT V0) (ha0 : jis V0 (.inr 5) a0) (hf_v0 : jfI V0 a0 5 0 v0) (hr_gr : jfR V0 a0 5 1 gr) (hr_mn : jfR V0 a0 5 2 mn) (hr_sp : jfR V0 a0 5 3 sp) (hr_rw : jfR V0 a0 5 4 rw) (hr_px : jfR V0 a0 5 6 px) (hr_py : jfR V0 a0 5 7 py) (hr_pz : jfR V0 a0 5 8 pz) (ha_GA : V0 gr = some (.inl (14, 16, .inl GA))) (ha_MN : V0 mn = some (.inl (15, 16, .inl MN))) (ha_SP : V0 sp = some (.inl (16, 960, .inl SP))) (ha_RW : V0 rw = some (.inl (17, 120, .inl RW))) (ha_PX : V0 px = some (.inl (18, 121, .inl PX))) (ha_PY : V0 py = some (.inl (19, 121, .inl PY))) (ha_PZ : V0 pz = some (.inl (20, 121, .inl PZ))) (hp0 : 0 ≤ x1.toInt) (hp1 : x1.toInt < v0.toInt) (hp2 : 0 ≤ x2.toInt) (hp3 : x2.toInt < v0.toInt) (hp4 : (GA x1.toInt.toNat).toInt = (GA x2.toInt.toNat).toInt) (hp5 : jav (GA x1.toInt.toNat).toInt (jTj (fun q => (SP (60 * x1.toInt.toNat + q)).toInt) (MN x1.toInt.toNat).toInt.toNat (fun q => (SP (60 * x2.toInt.toNat + q)).toInt)) ((MN x1.toInt.toNat).toInt + (MN x2.toInt.toNat).toInt).toNat) (hp6 : 60 < ((MN x1.toInt.toNat).toInt + (MN x2.toInt.toNat).toInt)) : jTot tS mX7_join d [.ref a0, .int x1, .int x2] V0 0 0 (fun r V => (jPost [.inr 5, .inl 17, .inl 18, .inl 19, .inl 20] V0 (fun r _ => ∃ y : Int32, r = some (.int y) ∧ ((-2147483648) ≤ y.toInt) ∧ (y.toInt ≤ 2147483647) ∧ (y.toInt = -4))) r V ∧ jkc 5 [0, 23, 24] V0 V) := by
  refine jTot.of_J [some (.ref a0), some (.int x1), some (.int x2), none, none] moX7_join (Nat.le_of_ble_eq_true rfl) rfl ?_
  have hrx1 := j_rng x1
  have hrx2 := j_rng x2
  have he : jeff [.inr 5, .inl 17, .inl 18, .inl 19, .inl 20] V0 V0 := jeff.refl _ _
  have hkp : jkc 5 [0, 23, 24] V0 V0 := jkc.rf
  obtain ⟨fs_a0, hO_a0, hK_a0⟩ := WT_obj hW id ha0
  have hF_v0 := hf_v0.get hO_a0
  have hrv0 : 0 ≤ v0.toInt ∧ v0.toInt ≤ 16 := jok_rngI hK_a0 rfl hF_v0
  have hF_gr := hr_gr.get hO_a0
  obtain ⟨w_gr, hFq_gr, b_gr, hbq_gr, hb_gr⟩ := hK_a0.2 1 (.inr (some (.inl 14))) rfl
  cases hF_gr.symm.trans (hFq_gr.trans (congrArg some hbq_gr))
  have hF_mn := hr_mn.get hO_a0
  obtain ⟨w_mn, hFq_mn, b_mn, hbq_mn, hb_mn⟩ := hK_a0.2 2 (.inr (some (.inl 15))) rfl
  cases hF_mn.symm.trans (hFq_mn.trans (congrArg some hbq_mn))
  have hF_sp := hr_sp.get hO_a0
  obtain ⟨w_sp, hFq_sp, b_sp, hbq_sp, hb_sp⟩ := hK_a0.2 3 (.inr (some (.inl 16))) rfl
  cases hF_sp.symm.trans (hFq_sp.trans (congrArg some hbq_sp))
  have hF_rw := hr_rw.get hO_a0
  obtain ⟨w_rw, hFq_rw, b_rw, hbq_rw, hb_rw⟩ := hK_a0.2 4 (.inr (some (.inl 17))) rfl
  cases hF_rw.symm.trans (hFq_rw.trans (congrArg some hbq_rw))
  have hF_px := hr_px.get hO_a0
  obtain ⟨w_px, hFq_px, b_px, hbq_px, hb_px⟩ := hK_a0.2 6 (.inr (some (.inl 18))) rfl
  cases hF_px.symm.trans (hFq_px.trans (congrArg some hbq_px))
  have hF_py := hr_py.get hO_a0
  obtain ⟨w_py, hFq_py, b_py, hbq_py, hb_py⟩ := hK_a0.2 7 (.inr (some (.inl 19))) rfl
  cases hF_py.symm.trans (hFq_py.trans (congrArg some hbq_py))
  have hF_pz := hr_pz.get hO_a0
  obtain ⟨w_pz, hFq_pz, b_pz, hbq_pz, hb_pz⟩ := hK_a0.2 8 (.inr (some (.inl 20))) rfl
  cases hF_pz.symm.trans (hFq_pz.trans (congrArg some hbq_pz))
  obtain ⟨hN_GA, hv_GA⟩ := WT_rngI (r := (0, 3)) hW id rfl ha_GA
  clear hN_GA
  obtain ⟨hN_MN, hv_MN⟩ := WT_rngI (r := (0, 60)) hW id rfl ha_MN
  clear hN_MN
  obtain ⟨hN_SP, hv_SP⟩ := WT_rngI (r := ((-2147483648), 2147483647)) hW id rfl ha_SP
  clear hN_SP
  obtain ⟨hN_RW, hv_RW⟩ := WT_rngI (r := ((-2147483648), 2147483647)) hW id rfl ha_RW
  clear hN_RW
  obtain ⟨hN_PX, hv_PX⟩ := WT_rngI (r := ((-2147483648), 2147483647)) hW id rfl ha_PX
  clear hN_PX
  obtain ⟨hN_PY, hv_PY⟩ := WT_rngI (r := ((-2147483648), 2147483647)) hW id rfl ha_PY
  clear hN_PY
  obtain ⟨hN_PZ, hv_PZ⟩ := WT_rngI (r := ((-2147483648), 2147483647)) hW id rfl ha_PZ
  clear hN_PZ
  refine J_aload_n dX7_join_0 rfl ?_
  refine J_iload_n dX7_join_1 rfl ?_
  refine Jw_callV1 (q9 := (RX7, TX7, 34)) moX7_isWalk jw_ml_X7_130 jw_im_X7_isWalk jw_se_X7_isWalk ha0 rfl rfl dX7_join_2 (w_X7_isWalk_z (d - 1) _ a0 x1 v0 (by omega) hW  ha0 ⟨_, hO_a0, hF_v0⟩) (by omega) (Nat.zero_le _) (Nat.zero_le _) (Nat.le_of_ble_eq_true rfl) (fun r2 V2 h2 => ?_)
  obtain ⟨⟨y2, rfl, hl2, hh2, hP2_0⟩, hE2⟩ := h2
  have hE2 := hE2.symm
  subst hE2
  refine Jz_if_eq (tgt := 16) jEq.rf dX7_join_5 (by decide) (fun c5 => ?_) (fun c5 => ?_)
  · exact False.elim (by omega)
  · refine J_aload_n dX7_join_8 rfl ?_
    refine J_iload_n dX7_join_9 rfl ?_
    refine Jw_callV1 (q9 := (RX7, TX7, 34)) moX7_isWalk jw_ml_X7_130 jw_im_X7_isWalk jw_se_X7_isWalk ha0 rfl rfl dX7_join_10 (w_X7_isWalk_z (d - 1) _ a0 x2 v0 (by omega) hW  ha0 ⟨_, hO_a0, hF_v0⟩) (by omega) (Nat.zero_le _) (Nat.zero_le _) (Nat.le_of_ble_eq_true rfl) (fun r10 V10 h10 => ?_)
    obtain ⟨⟨y10, rfl, hl10, hh10, hP10_0⟩, hE10⟩ := h10
    have hE10 := hE10.symm
    subst hE10
    refine Jz_if_ne (tgt := 19) jEq.rf dX7_join_13 (by decide) (fun c13 => ?_) (fun c13 => ?_)
    · refine J_aload_n dX7_join_19 rfl ?_
      refine J_get jf_X7_7 dX7_join_20 hO_a0 hF_gr ?_
      refine J_iload_n dX7_join_23 rfl ?_
      refine Jz_iald (r := (0, 3)) jEq.rf dX7_join_24 ha_GA rfl hv_GA (by omega) (by omega) (fun y24 hf24 hl24 hh24 => ?_)
      dsimp only at hl24 hh24
      have hq24 : (GA x1.toInt.toNat).toInt = y24.toInt := by rw [hf24]
      refine J_aload_n dX7_join_25 rfl ?_
      refine J_get jf_X7_7 dX7_join_26 hO_a0 hF_gr ?_
      refine J_iload_n dX7_join_29 rfl ?_
      refine Jz_iald (r := (0, 3)) jEq.rf dX7_join_30 ha_GA rfl hv_GA (by omega) (by omega) (fun y30 hf30 hl30 hh30 => ?_)
      dsimp only at hl30 hh30
      have hq30 : (GA x2.toInt.toNat).toInt = y30.toInt := by rw [hf30]
      refine Jz_icmp_eq (tgt := 37) jEq.rf jEq.rf dX7_join_31 (by decide) (fun c31 => ?_) (fun c31 => ?_)
      · refine J_aload_n dX7_join_37 rfl ?_
        refine J_iload_n dX7_join_38 rfl ?_
        have hmr := hv_MN x1.toInt.toNat (by omega)
        dsimp only at hmr
        have hmr2 := hv_MN x2.toInt.toNat (by omega)
        dsimp only at hmr2
        refine Jw_callV1 (q9 := (RX7, TX7, 34)) moX7_brings jw_ml_X7_137 jw_im_X7_brings jw_se_X7_brings ha0 rfl rfl dX7_join_39 (w_X7_brings_z (d - 1) _ a0 x1 mn sp rw MN SP RW (by omega) hW  ha0 ⟨_, hO_a0, hF_mn⟩ ⟨_, hO_a0, hF_sp⟩ ⟨_, hO_a0, hF_rw⟩ ha_MN ha_SP ha_RW (by omega) (by omega)) (by omega) (Nat.zero_le _) (Nat.zero_le _) (Nat.le_of_ble_eq_true rfl) (fun r39 V39 h39 => ?_)
        obtain ⟨h39, hX39_0, hX39_1, ⟨fv39_0, hfv39_0, hfp39_0⟩⟩ := h39
        obtain ⟨hW, hx39, hr39⟩ := h39
        have he := he.trans (hx39.sub (jsub_of rfl))
        have hkp := hkp.trans hX39_1
        have ha0 := ha0.mono hx39.1
        have hb_gr := hb_gr.mono hx39.1
        have hb_mn := hb_mn.mono hx39.1
        have hb_sp := hb_sp.mono hx39.1
        have hb_rw := hb_rw.mono hx39.1
        have hb_px := hb_px.mono hx39.1
        have hb_py := hb_py.mono hx39.1
        have hb_pz := hb_pz.mono hx39.1
        obtain ⟨fs39a0, hOfs39a0, hRfs39a0⟩ := hx39.1.keep hO_a0
        have hKfs39a0 : jokO _ (jFs 5) fs39a0 := hW _ _ id hOfs39a0
        have hFfs39a0_1 := hRfs39a0 _ _ hF_gr
        have hFfs39a0_2 := hRfs39a0 _ _ hF_mn
        have hFfs39a0_3 := hRfs39a0 _ _ hF_sp
        have hFfs39a0_4 := hRfs39a0 _ _ hF_rw
        have hFfs39a0_6 := hRfs39a0 _ _ hF_px
        have hFfs39a0_7 := hRfs39a0 _ _ hF_py
        have hFfs39a0_8 := hRfs39a0 _ _ hF_pz
        have ha_GA := hx39.2 _ _ ha_GA (jnot_of rfl)
        have ha_MN := hx39.2 _ _ ha_MN (jnot_of rfl)
        have ha_SP := hx39.2 _ _ ha_SP (jnot_of rfl)
        have ha_PX := hx39.2 _ _ ha_PX (jnot_of rfl)
        have ha_PY := hx39.2 _ _ ha_PY (jnot_of rfl)
        have ha_PZ := hx39.2 _ _ ha_PZ (jnot_of rfl)
        cases hr39
        have hFv39_0 := hfv39_0.get hOfs39a0
        have hzf39_0 : jEq fv39_0.toInt ((MN (x1.toInt).toNat).toInt) := hfp39_0
        clear hfp39_0
        obtain ⟨R2, hR2, hRe⟩ := hX39_0
        obtain ⟨hN_R2, hv_R2⟩ := WT_rngI (r := ((-2147483648), 2147483647)) hW id rfl hR2
        clear hN_R2
        refine J_aload_n dX7_join_42 rfl ?_
        refine J_get jf_X7_13 dX7_join_43 hOfs39a0 hFfs39a0_2 ?_
        refine J_iload_n dX7_join_46 rfl ?_
        refine Jz_iald (r := (0, 60)) jEq.rf dX7_join_47 ha_MN rfl hv_MN (by omega) (by omega) (fun y47 hf47 hl47 hh47 => ?_)
        dsimp only at hl47 hh47
        have hq47 : (MN x2.toInt.toNat).toInt = y47.toInt := by rw [hf47]
        refine J_istore_n dX7_join_48 rfl (by decide) ?_
        refine Jz_iconst 0 dX7_join_49 (by decide) (fun y49 he49 => ?_)
        refine J_istore dX7_join_50 rfl (by decide) ?_
        have L52 : ∀ (N : Nat) (V : jH) (i4n52 : Int32) (gs52a0 : List Value) (g5n52 : Int32) (F17n52 : Nat → Int32), WT V → jeff [.inr 5, .inl 17, .inl 18, .inl 19, .inl 20] V0 V → (jis V (.inr 5) a0) → (jis V (.inl 14) gr) → (jis V (.inl 15) mn) → (jis V (.inl 16) sp) → (jis V (.inl 17) rw) → (jis V (.inl 18) px) → (jis V (.inl 19) py) → (jis V (.inl 20) pz) → (jkc 5 [0, 23, 24] V0 V) → (V a0 = some (.inr (5, gs52a0))) → (gs52a0[1]? = some (.ref gr)) → (gs52a0[2]? = some (.ref mn)) → (gs52a0[3]? = some (.ref sp)) → (gs52a0[4]? = some (.ref rw)) → (gs52a0[6]? = some (.ref px)) → (gs52a0[7]? = some (.ref py)) → (gs52a0[8]? = some (.ref pz)) → (gs52a0[5]? = some (.int g5n52)) → (V rw = some (.inl (17, 120, .inl F17n52))) → (V gr = some (.inl (14, 16, .inl GA))) → (V mn = some (.inl (15, 16, .inl MN))) → (V sp = some (.inl (16, 960, .inl SP))) → (V px = some (.inl (18, 121, .inl PX))) → (V py = some (.inl (19, 121, .inl PY))) → (V pz = some (.inl (20, 121, .inl PZ))) → (0 ≤ i4n52.toInt ∧ i4n52.toInt ≤ (MN x2.toInt.toNat).toInt) → (g5n52.toInt = (MN x1.toInt.toNat).toInt + i4n52.toInt) → (∀ j : Nat, (j : Int) < (MN x1.toInt.toNat).toInt + i4n52.toInt → (F17n52 j).toInt = (jTj (fun q => (SP (60 * x1.toInt.toNat + q)).toInt) (MN x1.toInt.toNat).toInt.toNat (fun q => (SP (60 * x2.toInt.toNat + q)).toInt)) j) → (300 - i4n52.toInt).toNat < N → J tS mX7_join d 52 [some (.ref a0), some (.int x1), some (.int x2), some (.int y47), some (.int i4n52)] [] V 0 0 (fun r V => (jPost [.inr 5, .inl 17, .inl 18, .inl 19, .inl 20] V0 (fun r _ => ∃ y : Int32, r = some (.int y) ∧ ((-2147483648) ≤ y.toInt) ∧ (y.toInt ≤ 2147483647) ∧ (y.toInt = -4))) r V ∧ jkc 5 [0, 23, 24] V0 V) := by
          intro N
          induction N with
          | zero => intro V i4n52 gs52a0 g5n52 F17n52 hW he ha0 hb_gr hb_mn hb_sp hb_rw hb_px hb_py hb_pz hkp hOgs52a0 hFgs52a0_1 hFgs52a0_2 hFgs52a0_3 hFgs52a0_4 hFgs52a0_6 hFgs52a0_7 hFgs52a0_8 hFgs52a0_5 hAF17n52 ha_GA ha_MN ha_SP ha_PX ha_PY ha_PZ hi4 hrl hra hm; exact absurd hm (Nat.not_lt_zero _)
          | succ N ih =>
            intro V i4n52 gs52a0 g5n52 F17n52 hW he ha0 hb_gr hb_mn hb_sp hb_rw hb_px hb_py hb_pz hkp hOgs52a0 hFgs52a0_1 hFgs52a0_2 hFgs52a0_3 hFgs52a0_4 hFgs52a0_6 hFgs52a0_7 hFgs52a0_8 hFgs52a0_5 hAF17n52 ha_GA ha_MN ha_SP ha_PX ha_PY ha_PZ hi4 hrl hra hm
            have ih52 := ih
            have hri4 := j_rng i4n52
            have hKgs52a0 : jokO V (jFs 5) gs52a0 := hW _ _ id hOgs52a0
            have hrgg5n52 : 0 ≤ g5n52.toInt ∧ g5n52.toInt ≤ 120 := jok_rngI hKgs52a0 rfl hFgs52a0_5
            obtain ⟨hNF17n52, hvF17n52⟩ := WT_rngI (r := ((-2147483648), 2147483647)) hW id rfl hAF17n52
            clear hNF17n52
            refine J_iload dX7_join_52 rfl ?_
            refine J_iload_n dX7_join_54 rfl ?_
            refine Jz_icmp_ge (tgt := 95) jEq.rf jEq.rf dX7_join_55 (by decide) (fun c55 => ?_) (fun c55 => ?_)
            · refine J_aload_n dX7_join_95 rfl ?_
              refine J_iload_n dX7_join_96 rfl ?_
              refine Jw_callV1 (q9 := (RX7, TX7, 34)) moX7_becomes jw_ml_X7_140 jw_im_X7_becomes jw_se_X7_becomes ha0 rfl rfl dX7_join_97 (w_X7_becomes_full (d - 1) _ a0 x1 g5n52 gr mn sp rw px py pz GA MN SP F17n52 PX PY PZ (by omega) hW  ha0 ⟨_, hOgs52a0, hFgs52a0_5⟩ ⟨_, hOgs52a0, hFgs52a0_1⟩ ⟨_, hOgs52a0, hFgs52a0_2⟩ ⟨_, hOgs52a0, hFgs52a0_3⟩ ⟨_, hOgs52a0, hFgs52a0_4⟩ ⟨_, hOgs52a0, hFgs52a0_6⟩ ⟨_, hOgs52a0, hFgs52a0_7⟩ ⟨_, hOgs52a0, hFgs52a0_8⟩ ha_GA ha_MN ha_SP hAF17n52 ha_PX ha_PY ha_PZ (by omega) (by omega) (by rw [show g5n52.toInt = ((MN x1.toInt.toNat).toInt + (MN x2.toInt.toNat).toInt) by omega]; exact hp5.congr (fun k hk => (hra k (by omega)).symm)) (by omega)) (by omega) (Nat.zero_le _) (Nat.zero_le _) (Nat.le_of_ble_eq_true rfl) (fun r97 V97 h97 => ?_)
              obtain ⟨hW, hx97, hr97⟩ := h97
              have he := he.trans (hx97.sub (jsub_of rfl))
              have hkp := hkp.trans (jkc.of hx97 (jnot_of rfl))
              have ha0 := ha0.mono hx97.1
              have hb_gr := hb_gr.mono hx97.1
              have hb_mn := hb_mn.mono hx97.1
              have hb_sp := hb_sp.mono hx97.1
              have hb_rw := hb_rw.mono hx97.1
              have hb_px := hb_px.mono hx97.1
              have hb_py := hb_py.mono hx97.1
              have hb_pz := hb_pz.mono hx97.1
              have hOgs52a0 := hx97.2 _ _ hOgs52a0 (jnot_of rfl)
              have hKgs52a0 := hKgs52a0.mono hx97.1
              have hAF17n52 := hx97.2 _ _ hAF17n52 (jnot_of rfl)
              have ha_GA := hx97.2 _ _ ha_GA (jnot_of rfl)
              have ha_MN := hx97.2 _ _ ha_MN (jnot_of rfl)
              have ha_SP := hx97.2 _ _ ha_SP (jnot_of rfl)
              obtain ⟨y97, rfl, hl97, hh97, hP97_0⟩ := hr97
              clear hl97 hh97
              exact J_ret (r := some (.int _)) dX7_join_100 ⟨rfl, _, rfl, rfl⟩ (⟨⟨hW, he, ⟨_, rfl, (j_rng _).1, (j_rng _).2, (by omega)⟩⟩, hkp⟩)
            · refine J_aload_n dX7_join_58 rfl ?_
              refine J_get jf_X7_19 dX7_join_59 hOgs52a0 hFgs52a0_4 ?_
              refine J_aload_n dX7_join_62 rfl ?_
              refine J_get jf_X7_109 dX7_join_63 hOgs52a0 hFgs52a0_5 ?_
              refine J_aload_n dX7_join_66 rfl ?_
              refine J_get jf_X7_16 dX7_join_67 hOgs52a0 hFgs52a0_3 ?_
              refine Jz_bipush 60 dX7_join_70 (by decide) (fun y70 he70 => ?_)
              refine J_iload_n dX7_join_72 rfl ?_
              refine Jz_imul he70 jEq.rf dX7_join_73 (by omega) (by omega) (fun y73 he73 => ?_)
              refine J_iload dX7_join_74 rfl ?_
              refine Jz_iadd he73 jEq.rf dX7_join_76 (by omega) (by omega) (fun y76 he76 => ?_)
              refine Jz_iald (r := ((-2147483648), 2147483647)) he76 dX7_join_77 ha_SP rfl hv_SP (by omega) (by omega) (fun y77 hf77 hl77 hh77 => ?_)
              dsimp only at hl77 hh77
              clear hl77 hh77
              refine Jz_iast (r := ((-2147483648), 2147483647)) jEq.rf jEq.rf hW id dX7_join_78 hAF17n52 rfl rfl (by omega) (by omega) (j_rng _).1 (j_rng _).2 (fun V78 G78 hW hx78 hA78 hp78 ho78 => ?_)
              obtain ⟨hN78, hv78⟩ := WT_rngI (r := ((-2147483648), 2147483647)) hW id rfl hA78
              clear hN78
              have he := he.trans (hx78.sub (jsub_of rfl))
              have hkp := hkp.trans (jkc.of hx78 (jnot_of rfl))
              have ha0 := ha0.mono hx78.1
              have hb_gr := hb_gr.mono hx78.1
              have hb_mn := hb_mn.mono hx78.1
              have hb_sp := hb_sp.mono hx78.1
              have hb_rw := hb_rw.mono hx78.1
              have hb_px := hb_px.mono hx78.1
              have hb_py := hb_py.mono hx78.1
              have hb_pz := hb_pz.mono hx78.1
              have hOgs52a0 := hx78.2 _ _ hOgs52a0 (jnot_of rfl)
              have hKgs52a0 := hKgs52a0.mono hx78.1
              have ha_GA := hx78.2 _ _ ha_GA (jnot_of rfl)
              have ha_MN := hx78.2 _ _ ha_MN (jnot_of rfl)
              have ha_SP := hx78.2 _ _ ha_SP (jnot_of rfl)
              have ha_PX := hx78.2 _ _ ha_PX (jnot_of rfl)
              have ha_PY := hx78.2 _ _ ha_PY (jnot_of rfl)
              have ha_PZ := hx78.2 _ _ ha_PZ (jnot_of rfl)
              refine J_aload_n dX7_join_79 rfl ?_
              refine J_dup dX7_join_80 rfl ?_
              refine J_get jf_X7_109 dX7_join_81 hOgs52a0 hFgs52a0_5 ?_
              refine Jz_iconst 1 dX7_join_84 (by decide) (fun y84 he84 => ?_)
              refine Jz_iadd jEq.rf he84 dX7_join_85 (by omega) (by omega) (fun y85 he85 => ?_)
              refine Jz_putI hOgs52a0 hW id rfl jf_X7_109 jt_X7_5 he85 dX7_join_86 (by omega) (by omega) (fun _ _ => ⟨rfl, rfl⟩) (fun V86 fs86 hW hx86 hO86 hS86 hT86 hB86 => ?_)
              have hK86 : jokO _ (jFs 5) fs86 := hW _ _ id hO86
              have hF86_1 := (hT86 1 (by decide)).trans hFgs52a0_1
              have hF86_2 := (hT86 2 (by decide)).trans hFgs52a0_2
              have hF86_3 := (hT86 3 (by decide)).trans hFgs52a0_3
              have hF86_4 := (hT86 4 (by decide)).trans hFgs52a0_4
              have hF86_6 := (hT86 6 (by decide)).trans hFgs52a0_6
              have hF86_7 := (hT86 7 (by decide)).trans hFgs52a0_7
              have hF86_8 := (hT86 8 (by decide)).trans hFgs52a0_8
              have he := he.trans (hx86.sub (jsub_of rfl))
              have hkp := hkp.trans (jkc.put hOgs52a0 hO86 hT86 hB86 (by decide))
              have ha0 := ha0.mono hx86.1
              have hb_gr := hb_gr.mono hx86.1
              have hb_mn := hb_mn.mono hx86.1
              have hb_sp := hb_sp.mono hx86.1
              have hb_rw := hb_rw.mono hx86.1
              have hb_px := hb_px.mono hx86.1
              have hb_py := hb_py.mono hx86.1
              have hb_pz := hb_pz.mono hx86.1
              have ha_GA := hx86.2 _ _ ha_GA (jnot_of rfl)
              have ha_MN := hx86.2 _ _ ha_MN (jnot_of rfl)
              have ha_SP := hx86.2 _ _ ha_SP (jnot_of rfl)
              have ha_PX := hx86.2 _ _ ha_PX (jnot_of rfl)
              have ha_PY := hx86.2 _ _ ha_PY (jnot_of rfl)
              have ha_PZ := hx86.2 _ _ ha_PZ (jnot_of rfl)
              have hA78 := hx86.2 _ _ hA78 (jnot_of rfl)
              refine Jz_iinc 1 dX7_join_89 rfl rfl (by decide) jEq.rf (by decide) (by omega) (by omega) (fun y89 he89 => ?_)
              refine J_goto (tgt := 52) dX7_join_92 (by decide) ?_
              refine J.mask [true, true, true, true, true] ?_
              exact ih52 _ y89 fs86 y85 G78 hW he ha0 hb_gr hb_mn hb_sp hb_rw hb_px hb_py hb_pz hkp hO86 hF86_1 hF86_2 hF86_3 hF86_4 hF86_6 hF86_7 hF86_8 hS86 hA78 ha_GA ha_MN ha_SP ha_PX ha_PY ha_PZ (by (try simp only [he89.eq, he85.eq, true_and, and_true]) <;> omega) (by (try simp only [he89.eq, he85.eq, true_and, and_true]) <;> omega) (fun j hj => by rw [he89.eq] at hj; by_cases h9 : (j : Int) = g5n52.toInt; (have e : j = g5n52.toInt.toNat := by omega); subst e; rw [hp78, ← hf77]; unfold jTj; rw [if_neg (by omega)]; exact congrArg (fun z => (SP z).toInt) (by omega); rw [ho78 j (by omega)]; exact hra j (by omega)) (by (try simp only [he89.eq, he85.eq, true_and, and_true]) <;> omega)
        refine J.mask [true, true, true, true, true] ?_
        exact L52 _ _ y49 fs39a0 fv39_0 R2 hW he ha0 hb_gr hb_mn hb_sp hb_rw hb_px hb_py hb_pz hkp hOfs39a0 hFfs39a0_1 hFfs39a0_2 hFfs39a0_3 hFfs39a0_4 hFfs39a0_6 hFfs39a0_7 hFfs39a0_8 hFv39_0 hR2 ha_GA ha_MN ha_SP ha_PX ha_PY ha_PZ (by (try simp only [he49.eq, hzf39_0.eq, true_and, and_true]) <;> omega) (by (try simp only [he49.eq, hzf39_0.eq, true_and, and_true]) <;> omega) (fun j hj => by rw [he49.eq] at hj; rw [hRe j (by omega)]; unfold jTj; rw [if_pos (by omega)]) (Nat.lt_succ_self _)
      · exact False.elim (by omega)
    · exact False.elim (by omega)
set_option maxRecDepth 100000 in
set_option maxHeartbeats 8000000 in
theorem w_X7_join_ok {tS : jTS} (d : Nat) (V0 : jH) (a0 : Nat) (x1 : Int32) (x2 : Int32) (v0 : Int32) (gr : Nat) (mn : Nat) (sp : Nat) (rw : Nat) (px : Nat) (py : Nat) (pz : Nat) (GA : Nat → Int32) (MN : Nat → Int32) (SP : Nat → Int32) (RW : Nat → Int32) (PX : Nat → Int32) (PY : Nat → Int32) (PZ : Nat → Int32) (hd : 3 ≤ d) (hW : WT V0) (ha0 : jis V0 (.inr 5) a0) (hf_v0 : jfI V0 a0 5 0 v0) (hr_gr : jfR V0 a0 5 1 gr) (hr_mn : jfR V0 a0 5 2 mn) (hr_sp : jfR V0 a0 5 3 sp) (hr_rw : jfR V0 a0 5 4 rw) (hr_px : jfR V0 a0 5 6 px) (hr_py : jfR V0 a0 5 7 py) (hr_pz : jfR V0 a0 5 8 pz) (ha_GA : V0 gr = some (.inl (14, 16, .inl GA))) (ha_MN : V0 mn = some (.inl (15, 16, .inl MN))) (ha_SP : V0 sp = some (.inl (16, 960, .inl SP))) (ha_RW : V0 rw = some (.inl (17, 120, .inl RW))) (ha_PX : V0 px = some (.inl (18, 121, .inl PX))) (ha_PY : V0 py = some (.inl (19, 121, .inl PY))) (ha_PZ : V0 pz = some (.inl (20, 121, .inl PZ))) (hp0 : 0 ≤ x1.toInt) (hp1 : x1.toInt < v0.toInt) (hp2 : 0 ≤ x2.toInt) (hp3 : x2.toInt < v0.toInt) (hp4 : (GA x1.toInt.toNat).toInt = (GA x2.toInt.toNat).toInt) (hp5 : jav (GA x1.toInt.toNat).toInt (jTj (fun q => (SP (60 * x1.toInt.toNat + q)).toInt) (MN x1.toInt.toNat).toInt.toNat (fun q => (SP (60 * x2.toInt.toNat + q)).toInt)) ((MN x1.toInt.toNat).toInt + (MN x2.toInt.toNat).toInt).toNat) (hp6 : ((MN x1.toInt.toNat).toInt + (MN x2.toInt.toNat).toInt) ≤ 60) : jTot tS mX7_join d [.ref a0, .int x1, .int x2] V0 0 0 (fun r V => (jPost [.inr 5, .inl 17, .inl 18, .inl 19, .inl 20, .inl 15, .inl 16] V0 (fun r _ => ∃ y : Int32, r = some (.int y) ∧ ((-2147483648) ≤ y.toInt) ∧ (y.toInt ≤ 2147483647) ∧ (y.toInt = ((MN x1.toInt.toNat).toInt + (MN x2.toInt.toNat).toInt)))) r V ∧ (∃ M2 : Nat → Int32, V mn = some (.inl (15, 16, .inl M2)) ∧ (M2 x1.toInt.toNat).toInt = ((MN x1.toInt.toNat).toInt + (MN x2.toInt.toNat).toInt) ∧ ∀ j : Nat, j ≠ x1.toInt.toNat → M2 j = MN j) ∧ (∃ S2 : Nat → Int32, V sp = some (.inl (16, 960, .inl S2)) ∧ (∀ j : Nat, (j : Int) < ((MN x1.toInt.toNat).toInt + (MN x2.toInt.toNat).toInt) → (S2 (60 * x1.toInt.toNat + j)).toInt = (jTj (fun q => (SP (60 * x1.toInt.toNat + q)).toInt) (MN x1.toInt.toNat).toInt.toNat (fun q => (SP (60 * x2.toInt.toNat + q)).toInt)) j) ∧ ∀ q : Nat, q < 60 * x1.toInt.toNat ∨ 60 * x1.toInt.toNat + 60 ≤ q → S2 q = SP q) ∧ jkc 5 [0, 23, 24] V0 V) := by
  refine jTot.of_J [some (.ref a0), some (.int x1), some (.int x2), none, none] moX7_join (Nat.le_of_ble_eq_true rfl) rfl ?_
  have hrx1 := j_rng x1
  have hrx2 := j_rng x2
  have he : jeff [.inr 5, .inl 17, .inl 18, .inl 19, .inl 20, .inl 15, .inl 16] V0 V0 := jeff.refl _ _
  have hkp : jkc 5 [0, 23, 24] V0 V0 := jkc.rf
  obtain ⟨fs_a0, hO_a0, hK_a0⟩ := WT_obj hW id ha0
  have hF_v0 := hf_v0.get hO_a0
  have hrv0 : 0 ≤ v0.toInt ∧ v0.toInt ≤ 16 := jok_rngI hK_a0 rfl hF_v0
  have hF_gr := hr_gr.get hO_a0
  obtain ⟨w_gr, hFq_gr, b_gr, hbq_gr, hb_gr⟩ := hK_a0.2 1 (.inr (some (.inl 14))) rfl
  cases hF_gr.symm.trans (hFq_gr.trans (congrArg some hbq_gr))
  have hF_mn := hr_mn.get hO_a0
  obtain ⟨w_mn, hFq_mn, b_mn, hbq_mn, hb_mn⟩ := hK_a0.2 2 (.inr (some (.inl 15))) rfl
  cases hF_mn.symm.trans (hFq_mn.trans (congrArg some hbq_mn))
  have hF_sp := hr_sp.get hO_a0
  obtain ⟨w_sp, hFq_sp, b_sp, hbq_sp, hb_sp⟩ := hK_a0.2 3 (.inr (some (.inl 16))) rfl
  cases hF_sp.symm.trans (hFq_sp.trans (congrArg some hbq_sp))
  have hF_rw := hr_rw.get hO_a0
  obtain ⟨w_rw, hFq_rw, b_rw, hbq_rw, hb_rw⟩ := hK_a0.2 4 (.inr (some (.inl 17))) rfl
  cases hF_rw.symm.trans (hFq_rw.trans (congrArg some hbq_rw))
  have hF_px := hr_px.get hO_a0
  obtain ⟨w_px, hFq_px, b_px, hbq_px, hb_px⟩ := hK_a0.2 6 (.inr (some (.inl 18))) rfl
  cases hF_px.symm.trans (hFq_px.trans (congrArg some hbq_px))
  have hF_py := hr_py.get hO_a0
  obtain ⟨w_py, hFq_py, b_py, hbq_py, hb_py⟩ := hK_a0.2 7 (.inr (some (.inl 19))) rfl
  cases hF_py.symm.trans (hFq_py.trans (congrArg some hbq_py))
  have hF_pz := hr_pz.get hO_a0
  obtain ⟨w_pz, hFq_pz, b_pz, hbq_pz, hb_pz⟩ := hK_a0.2 8 (.inr (some (.inl 20))) rfl
  cases hF_pz.symm.trans (hFq_pz.trans (congrArg some hbq_pz))
  obtain ⟨hN_GA, hv_GA⟩ := WT_rngI (r := (0, 3)) hW id rfl ha_GA
  clear hN_GA
  obtain ⟨hN_MN, hv_MN⟩ := WT_rngI (r := (0, 60)) hW id rfl ha_MN
  clear hN_MN
  obtain ⟨hN_SP, hv_SP⟩ := WT_rngI (r := ((-2147483648), 2147483647)) hW id rfl ha_SP
  clear hN_SP
  obtain ⟨hN_RW, hv_RW⟩ := WT_rngI (r := ((-2147483648), 2147483647)) hW id rfl ha_RW
  clear hN_RW
  obtain ⟨hN_PX, hv_PX⟩ := WT_rngI (r := ((-2147483648), 2147483647)) hW id rfl ha_PX
  clear hN_PX
  obtain ⟨hN_PY, hv_PY⟩ := WT_rngI (r := ((-2147483648), 2147483647)) hW id rfl ha_PY
  clear hN_PY
  obtain ⟨hN_PZ, hv_PZ⟩ := WT_rngI (r := ((-2147483648), 2147483647)) hW id rfl ha_PZ
  clear hN_PZ
  refine J_aload_n dX7_join_0 rfl ?_
  refine J_iload_n dX7_join_1 rfl ?_
  refine Jw_callV1 (q9 := (RX7, TX7, 34)) moX7_isWalk jw_ml_X7_130 jw_im_X7_isWalk jw_se_X7_isWalk ha0 rfl rfl dX7_join_2 (w_X7_isWalk_z (d - 1) _ a0 x1 v0 (by omega) hW  ha0 ⟨_, hO_a0, hF_v0⟩) (by omega) (Nat.zero_le _) (Nat.zero_le _) (Nat.le_of_ble_eq_true rfl) (fun r2 V2 h2 => ?_)
  obtain ⟨⟨y2, rfl, hl2, hh2, hP2_0⟩, hE2⟩ := h2
  have hE2 := hE2.symm
  subst hE2
  refine Jz_if_eq (tgt := 16) jEq.rf dX7_join_5 (by decide) (fun c5 => ?_) (fun c5 => ?_)
  · exact False.elim (by omega)
  · refine J_aload_n dX7_join_8 rfl ?_
    refine J_iload_n dX7_join_9 rfl ?_
    refine Jw_callV1 (q9 := (RX7, TX7, 34)) moX7_isWalk jw_ml_X7_130 jw_im_X7_isWalk jw_se_X7_isWalk ha0 rfl rfl dX7_join_10 (w_X7_isWalk_z (d - 1) _ a0 x2 v0 (by omega) hW  ha0 ⟨_, hO_a0, hF_v0⟩) (by omega) (Nat.zero_le _) (Nat.zero_le _) (Nat.le_of_ble_eq_true rfl) (fun r10 V10 h10 => ?_)
    obtain ⟨⟨y10, rfl, hl10, hh10, hP10_0⟩, hE10⟩ := h10
    have hE10 := hE10.symm
    subst hE10
    refine Jz_if_ne (tgt := 19) jEq.rf dX7_join_13 (by decide) (fun c13 => ?_) (fun c13 => ?_)
    · refine J_aload_n dX7_join_19 rfl ?_
      refine J_get jf_X7_7 dX7_join_20 hO_a0 hF_gr ?_
      refine J_iload_n dX7_join_23 rfl ?_
      refine Jz_iald (r := (0, 3)) jEq.rf dX7_join_24 ha_GA rfl hv_GA (by omega) (by omega) (fun y24 hf24 hl24 hh24 => ?_)
      dsimp only at hl24 hh24
      have hq24 : (GA x1.toInt.toNat).toInt = y24.toInt := by rw [hf24]
      refine J_aload_n dX7_join_25 rfl ?_
      refine J_get jf_X7_7 dX7_join_26 hO_a0 hF_gr ?_
      refine J_iload_n dX7_join_29 rfl ?_
      refine Jz_iald (r := (0, 3)) jEq.rf dX7_join_30 ha_GA rfl hv_GA (by omega) (by omega) (fun y30 hf30 hl30 hh30 => ?_)
      dsimp only at hl30 hh30
      have hq30 : (GA x2.toInt.toNat).toInt = y30.toInt := by rw [hf30]
      refine Jz_icmp_eq (tgt := 37) jEq.rf jEq.rf dX7_join_31 (by decide) (fun c31 => ?_) (fun c31 => ?_)
      · refine J_aload_n dX7_join_37 rfl ?_
        refine J_iload_n dX7_join_38 rfl ?_
        have hmr := hv_MN x1.toInt.toNat (by omega)
        dsimp only at hmr
        have hmr2 := hv_MN x2.toInt.toNat (by omega)
        dsimp only at hmr2
        refine Jw_callV1 (q9 := (RX7, TX7, 34)) moX7_brings jw_ml_X7_137 jw_im_X7_brings jw_se_X7_brings ha0 rfl rfl dX7_join_39 (w_X7_brings_z (d - 1) _ a0 x1 mn sp rw MN SP RW (by omega) hW  ha0 ⟨_, hO_a0, hF_mn⟩ ⟨_, hO_a0, hF_sp⟩ ⟨_, hO_a0, hF_rw⟩ ha_MN ha_SP ha_RW (by omega) (by omega)) (by omega) (Nat.zero_le _) (Nat.zero_le _) (Nat.le_of_ble_eq_true rfl) (fun r39 V39 h39 => ?_)
        obtain ⟨h39, hX39_0, hX39_1, ⟨fv39_0, hfv39_0, hfp39_0⟩⟩ := h39
        obtain ⟨hW, hx39, hr39⟩ := h39
        have he := he.trans (hx39.sub (jsub_of rfl))
        have hkp := hkp.trans hX39_1
        have ha0 := ha0.mono hx39.1
        have hb_gr := hb_gr.mono hx39.1
        have hb_mn := hb_mn.mono hx39.1
        have hb_sp := hb_sp.mono hx39.1
        have hb_rw := hb_rw.mono hx39.1
        have hb_px := hb_px.mono hx39.1
        have hb_py := hb_py.mono hx39.1
        have hb_pz := hb_pz.mono hx39.1
        obtain ⟨fs39a0, hOfs39a0, hRfs39a0⟩ := hx39.1.keep hO_a0
        have hKfs39a0 : jokO _ (jFs 5) fs39a0 := hW _ _ id hOfs39a0
        have hFfs39a0_1 := hRfs39a0 _ _ hF_gr
        have hFfs39a0_2 := hRfs39a0 _ _ hF_mn
        have hFfs39a0_3 := hRfs39a0 _ _ hF_sp
        have hFfs39a0_4 := hRfs39a0 _ _ hF_rw
        have hFfs39a0_6 := hRfs39a0 _ _ hF_px
        have hFfs39a0_7 := hRfs39a0 _ _ hF_py
        have hFfs39a0_8 := hRfs39a0 _ _ hF_pz
        have ha_GA := hx39.2 _ _ ha_GA (jnot_of rfl)
        have ha_MN := hx39.2 _ _ ha_MN (jnot_of rfl)
        have ha_SP := hx39.2 _ _ ha_SP (jnot_of rfl)
        have ha_PX := hx39.2 _ _ ha_PX (jnot_of rfl)
        have ha_PY := hx39.2 _ _ ha_PY (jnot_of rfl)
        have ha_PZ := hx39.2 _ _ ha_PZ (jnot_of rfl)
        cases hr39
        have hFv39_0 := hfv39_0.get hOfs39a0
        have hzf39_0 : jEq fv39_0.toInt ((MN (x1.toInt).toNat).toInt) := hfp39_0
        clear hfp39_0
        obtain ⟨R2, hR2, hRe⟩ := hX39_0
        obtain ⟨hN_R2, hv_R2⟩ := WT_rngI (r := ((-2147483648), 2147483647)) hW id rfl hR2
        clear hN_R2
        refine J_aload_n dX7_join_42 rfl ?_
        refine J_get jf_X7_13 dX7_join_43 hOfs39a0 hFfs39a0_2 ?_
        refine J_iload_n dX7_join_46 rfl ?_
        refine Jz_iald (r := (0, 60)) jEq.rf dX7_join_47 ha_MN rfl hv_MN (by omega) (by omega) (fun y47 hf47 hl47 hh47 => ?_)
        dsimp only at hl47 hh47
        have hq47 : (MN x2.toInt.toNat).toInt = y47.toInt := by rw [hf47]
        refine J_istore_n dX7_join_48 rfl (by decide) ?_
        refine Jz_iconst 0 dX7_join_49 (by decide) (fun y49 he49 => ?_)
        refine J_istore dX7_join_50 rfl (by decide) ?_
        have L52 : ∀ (N : Nat) (V : jH) (i4n52 : Int32) (gs52a0 : List Value) (g5n52 : Int32) (F17n52 : Nat → Int32), WT V → jeff [.inr 5, .inl 17, .inl 18, .inl 19, .inl 20, .inl 15, .inl 16] V0 V → (jis V (.inr 5) a0) → (jis V (.inl 14) gr) → (jis V (.inl 15) mn) → (jis V (.inl 16) sp) → (jis V (.inl 17) rw) → (jis V (.inl 18) px) → (jis V (.inl 19) py) → (jis V (.inl 20) pz) → (jkc 5 [0, 23, 24] V0 V) → (V a0 = some (.inr (5, gs52a0))) → (gs52a0[1]? = some (.ref gr)) → (gs52a0[2]? = some (.ref mn)) → (gs52a0[3]? = some (.ref sp)) → (gs52a0[4]? = some (.ref rw)) → (gs52a0[6]? = some (.ref px)) → (gs52a0[7]? = some (.ref py)) → (gs52a0[8]? = some (.ref pz)) → (gs52a0[5]? = some (.int g5n52)) → (V rw = some (.inl (17, 120, .inl F17n52))) → (V gr = some (.inl (14, 16, .inl GA))) → (V mn = some (.inl (15, 16, .inl MN))) → (V sp = some (.inl (16, 960, .inl SP))) → (V px = some (.inl (18, 121, .inl PX))) → (V py = some (.inl (19, 121, .inl PY))) → (V pz = some (.inl (20, 121, .inl PZ))) → (0 ≤ i4n52.toInt ∧ i4n52.toInt ≤ (MN x2.toInt.toNat).toInt) → (g5n52.toInt = (MN x1.toInt.toNat).toInt + i4n52.toInt) → (∀ j : Nat, (j : Int) < (MN x1.toInt.toNat).toInt + i4n52.toInt → (F17n52 j).toInt = (jTj (fun q => (SP (60 * x1.toInt.toNat + q)).toInt) (MN x1.toInt.toNat).toInt.toNat (fun q => (SP (60 * x2.toInt.toNat + q)).toInt)) j) → (300 - i4n52.toInt).toNat < N → J tS mX7_join d 52 [some (.ref a0), some (.int x1), some (.int x2), some (.int y47), some (.int i4n52)] [] V 0 0 (fun r V => (jPost [.inr 5, .inl 17, .inl 18, .inl 19, .inl 20, .inl 15, .inl 16] V0 (fun r _ => ∃ y : Int32, r = some (.int y) ∧ ((-2147483648) ≤ y.toInt) ∧ (y.toInt ≤ 2147483647) ∧ (y.toInt = ((MN x1.toInt.toNat).toInt + (MN x2.toInt.toNat).toInt)))) r V ∧ (∃ M2 : Nat → Int32, V mn = some (.inl (15, 16, .inl M2)) ∧ (M2 x1.toInt.toNat).toInt = ((MN x1.toInt.toNat).toInt + (MN x2.toInt.toNat).toInt) ∧ ∀ j : Nat, j ≠ x1.toInt.toNat → M2 j = MN j) ∧ (∃ S2 : Nat → Int32, V sp = some (.inl (16, 960, .inl S2)) ∧ (∀ j : Nat, (j : Int) < ((MN x1.toInt.toNat).toInt + (MN x2.toInt.toNat).toInt) → (S2 (60 * x1.toInt.toNat + j)).toInt = (jTj (fun q => (SP (60 * x1.toInt.toNat + q)).toInt) (MN x1.toInt.toNat).toInt.toNat (fun q => (SP (60 * x2.toInt.toNat + q)).toInt)) j) ∧ ∀ q : Nat, q < 60 * x1.toInt.toNat ∨ 60 * x1.toInt.toNat + 60 ≤ q → S2 q = SP q) ∧ jkc 5 [0, 23, 24] V0 V) := by
          intro N
          induction N with
          | zero => intro V i4n52 gs52a0 g5n52 F17n52 hW he ha0 hb_gr hb_mn hb_sp hb_rw hb_px hb_py hb_pz hkp hOgs52a0 hFgs52a0_1 hFgs52a0_2 hFgs52a0_3 hFgs52a0_4 hFgs52a0_6 hFgs52a0_7 hFgs52a0_8 hFgs52a0_5 hAF17n52 ha_GA ha_MN ha_SP ha_PX ha_PY ha_PZ hi4 hrl hra hm; exact absurd hm (Nat.not_lt_zero _)
          | succ N ih =>
            intro V i4n52 gs52a0 g5n52 F17n52 hW he ha0 hb_gr hb_mn hb_sp hb_rw hb_px hb_py hb_pz hkp hOgs52a0 hFgs52a0_1 hFgs52a0_2 hFgs52a0_3 hFgs52a0_4 hFgs52a0_6 hFgs52a0_7 hFgs52a0_8 hFgs52a0_5 hAF17n52 ha_GA ha_MN ha_SP ha_PX ha_PY ha_PZ hi4 hrl hra hm
            have ih52 := ih
            have hri4 := j_rng i4n52
            have hKgs52a0 : jokO V (jFs 5) gs52a0 := hW _ _ id hOgs52a0
            have hrgg5n52 : 0 ≤ g5n52.toInt ∧ g5n52.toInt ≤ 120 := jok_rngI hKgs52a0 rfl hFgs52a0_5
            obtain ⟨hNF17n52, hvF17n52⟩ := WT_rngI (r := ((-2147483648), 2147483647)) hW id rfl hAF17n52
            clear hNF17n52
            refine J_iload dX7_join_52 rfl ?_
            refine J_iload_n dX7_join_54 rfl ?_
            refine Jz_icmp_ge (tgt := 95) jEq.rf jEq.rf dX7_join_55 (by decide) (fun c55 => ?_) (fun c55 => ?_)
            · refine J_aload_n dX7_join_95 rfl ?_
              refine J_iload_n dX7_join_96 rfl ?_
              refine Jw_callV1 (q9 := (RX7, TX7, 34)) moX7_becomes jw_ml_X7_140 jw_im_X7_becomes jw_se_X7_becomes ha0 rfl rfl dX7_join_97 (w_X7_becomes_ok (d - 1) _ a0 x1 g5n52 gr mn sp rw px py pz GA MN SP F17n52 PX PY PZ (by omega) hW  ha0 ⟨_, hOgs52a0, hFgs52a0_5⟩ ⟨_, hOgs52a0, hFgs52a0_1⟩ ⟨_, hOgs52a0, hFgs52a0_2⟩ ⟨_, hOgs52a0, hFgs52a0_3⟩ ⟨_, hOgs52a0, hFgs52a0_4⟩ ⟨_, hOgs52a0, hFgs52a0_6⟩ ⟨_, hOgs52a0, hFgs52a0_7⟩ ⟨_, hOgs52a0, hFgs52a0_8⟩ ha_GA ha_MN ha_SP hAF17n52 ha_PX ha_PY ha_PZ (by omega) (by omega) (by rw [show g5n52.toInt = ((MN x1.toInt.toNat).toInt + (MN x2.toInt.toNat).toInt) by omega]; exact hp5.congr (fun k hk => (hra k (by omega)).symm)) (by omega)) (by omega) (Nat.zero_le _) (Nat.zero_le _) (Nat.le_of_ble_eq_true rfl) (fun r97 V97 h97 => ?_)
              obtain ⟨h97, hX97_0, hX97_1⟩ := h97
              obtain ⟨hW, hx97, hr97⟩ := h97
              have he := he.trans (hx97.sub (jsub_of rfl))
              have hkp := hkp.trans (jkc.of hx97 (jnot_of rfl))
              have ha0 := ha0.mono hx97.1
              have hb_gr := hb_gr.mono hx97.1
              have hb_mn := hb_mn.mono hx97.1
              have hb_sp := hb_sp.mono hx97.1
              have hb_rw := hb_rw.mono hx97.1
              have hb_px := hb_px.mono hx97.1
              have hb_py := hb_py.mono hx97.1
              have hb_pz := hb_pz.mono hx97.1
              have hOgs52a0 := hx97.2 _ _ hOgs52a0 (jnot_of rfl)
              have hKgs52a0 := hKgs52a0.mono hx97.1
              have hAF17n52 := hx97.2 _ _ hAF17n52 (jnot_of rfl)
              have ha_GA := hx97.2 _ _ ha_GA (jnot_of rfl)
              obtain ⟨y97, rfl, hl97, hh97, hP97_0⟩ := hr97
              clear hl97 hh97
              exact J_ret (r := some (.int _)) dX7_join_100 ⟨rfl, _, rfl, rfl⟩ (⟨⟨hW, he, ⟨_, rfl, (j_rng _).1, (j_rng _).2, (by omega)⟩⟩, (hX97_0.imp (fun M2 q => ⟨q.1, by rw [q.2.1]; omega, q.2.2⟩)), (hX97_1.imp (fun S2 q => ⟨q.1, fun j hj => by rw [q.2.1 j (by omega)]; exact hra j (by omega), q.2.2⟩)), hkp⟩)
            · refine J_aload_n dX7_join_58 rfl ?_
              refine J_get jf_X7_19 dX7_join_59 hOgs52a0 hFgs52a0_4 ?_
              refine J_aload_n dX7_join_62 rfl ?_
              refine J_get jf_X7_109 dX7_join_63 hOgs52a0 hFgs52a0_5 ?_
              refine J_aload_n dX7_join_66 rfl ?_
              refine J_get jf_X7_16 dX7_join_67 hOgs52a0 hFgs52a0_3 ?_
              refine Jz_bipush 60 dX7_join_70 (by decide) (fun y70 he70 => ?_)
              refine J_iload_n dX7_join_72 rfl ?_
              refine Jz_imul he70 jEq.rf dX7_join_73 (by omega) (by omega) (fun y73 he73 => ?_)
              refine J_iload dX7_join_74 rfl ?_
              refine Jz_iadd he73 jEq.rf dX7_join_76 (by omega) (by omega) (fun y76 he76 => ?_)
              refine Jz_iald (r := ((-2147483648), 2147483647)) he76 dX7_join_77 ha_SP rfl hv_SP (by omega) (by omega) (fun y77 hf77 hl77 hh77 => ?_)
              dsimp only at hl77 hh77
              clear hl77 hh77
              refine Jz_iast (r := ((-2147483648), 2147483647)) jEq.rf jEq.rf hW id dX7_join_78 hAF17n52 rfl rfl (by omega) (by omega) (j_rng _).1 (j_rng _).2 (fun V78 G78 hW hx78 hA78 hp78 ho78 => ?_)
              obtain ⟨hN78, hv78⟩ := WT_rngI (r := ((-2147483648), 2147483647)) hW id rfl hA78
              clear hN78
              have he := he.trans (hx78.sub (jsub_of rfl))
              have hkp := hkp.trans (jkc.of hx78 (jnot_of rfl))
              have ha0 := ha0.mono hx78.1
              have hb_gr := hb_gr.mono hx78.1
              have hb_mn := hb_mn.mono hx78.1
              have hb_sp := hb_sp.mono hx78.1
              have hb_rw := hb_rw.mono hx78.1
              have hb_px := hb_px.mono hx78.1
              have hb_py := hb_py.mono hx78.1
              have hb_pz := hb_pz.mono hx78.1
              have hOgs52a0 := hx78.2 _ _ hOgs52a0 (jnot_of rfl)
              have hKgs52a0 := hKgs52a0.mono hx78.1
              have ha_GA := hx78.2 _ _ ha_GA (jnot_of rfl)
              have ha_MN := hx78.2 _ _ ha_MN (jnot_of rfl)
              have ha_SP := hx78.2 _ _ ha_SP (jnot_of rfl)
              have ha_PX := hx78.2 _ _ ha_PX (jnot_of rfl)
              have ha_PY := hx78.2 _ _ ha_PY (jnot_of rfl)
              have ha_PZ := hx78.2 _ _ ha_PZ (jnot_of rfl)
              refine J_aload_n dX7_join_79 rfl ?_
              refine J_dup dX7_join_80 rfl ?_
              refine J_get jf_X7_109 dX7_join_81 hOgs52a0 hFgs52a0_5 ?_
              refine Jz_iconst 1 dX7_join_84 (by decide) (fun y84 he84 => ?_)
              refine Jz_iadd jEq.rf he84 dX7_join_85 (by omega) (by omega) (fun y85 he85 => ?_)
              refine Jz_putI hOgs52a0 hW id rfl jf_X7_109 jt_X7_5 he85 dX7_join_86 (by omega) (by omega) (fun _ _ => ⟨rfl, rfl⟩) (fun V86 fs86 hW hx86 hO86 hS86 hT86 hB86 => ?_)
              have hK86 : jokO _ (jFs 5) fs86 := hW _ _ id hO86
              have hF86_1 := (hT86 1 (by decide)).trans hFgs52a0_1
              have hF86_2 := (hT86 2 (by decide)).trans hFgs52a0_2
              have hF86_3 := (hT86 3 (by decide)).trans hFgs52a0_3
              have hF86_4 := (hT86 4 (by decide)).trans hFgs52a0_4
              have hF86_6 := (hT86 6 (by decide)).trans hFgs52a0_6
              have hF86_7 := (hT86 7 (by decide)).trans hFgs52a0_7
              have hF86_8 := (hT86 8 (by decide)).trans hFgs52a0_8
              have he := he.trans (hx86.sub (jsub_of rfl))
              have hkp := hkp.trans (jkc.put hOgs52a0 hO86 hT86 hB86 (by decide))
              have ha0 := ha0.mono hx86.1
              have hb_gr := hb_gr.mono hx86.1
              have hb_mn := hb_mn.mono hx86.1
              have hb_sp := hb_sp.mono hx86.1
              have hb_rw := hb_rw.mono hx86.1
              have hb_px := hb_px.mono hx86.1
              have hb_py := hb_py.mono hx86.1
              have hb_pz := hb_pz.mono hx86.1
              have ha_GA := hx86.2 _ _ ha_GA (jnot_of rfl)
              have ha_MN := hx86.2 _ _ ha_MN (jnot_of rfl)
              have ha_SP := hx86.2 _ _ ha_SP (jnot_of rfl)
              have ha_PX := hx86.2 _ _ ha_PX (jnot_of rfl)
              have ha_PY := hx86.2 _ _ ha_PY (jnot_of rfl)
              have ha_PZ := hx86.2 _ _ ha_PZ (jnot_of rfl)
              have hA78 := hx86.2 _ _ hA78 (jnot_of rfl)
              refine Jz_iinc 1 dX7_join_89 rfl rfl (by decide) jEq.rf (by decide) (by omega) (by omega) (fun y89 he89 => ?_)
              refine J_goto (tgt := 52) dX7_join_92 (by decide) ?_
              refine J.mask [true, true, true, true, true] ?_
              exact ih52 _ y89 fs86 y85 G78 hW he ha0 hb_gr hb_mn hb_sp hb_rw hb_px hb_py hb_pz hkp hO86 hF86_1 hF86_2 hF86_3 hF86_4 hF86_6 hF86_7 hF86_8 hS86 hA78 ha_GA ha_MN ha_SP ha_PX ha_PY ha_PZ (by (try simp only [he89.eq, he85.eq, true_and, and_true]) <;> omega) (by (try simp only [he89.eq, he85.eq, true_and, and_true]) <;> omega) (fun j hj => by rw [he89.eq] at hj; by_cases h9 : (j : Int) = g5n52.toInt; (have e : j = g5n52.toInt.toNat := by omega); subst e; rw [hp78, ← hf77]; unfold jTj; rw [if_neg (by omega)]; exact congrArg (fun z => (SP z).toInt) (by omega); rw [ho78 j (by omega)]; exact hra j (by omega)) (by (try simp only [he89.eq, he85.eq, true_and, and_true]) <;> omega)
        refine J.mask [true, true, true, true, true] ?_
        exact L52 _ _ y49 fs39a0 fv39_0 R2 hW he ha0 hb_gr hb_mn hb_sp hb_rw hb_px hb_py hb_pz hkp hOfs39a0 hFfs39a0_1 hFfs39a0_2 hFfs39a0_3 hFfs39a0_4 hFfs39a0_6 hFfs39a0_7 hFfs39a0_8 hFv39_0 hR2 ha_GA ha_MN ha_SP ha_PX ha_PY ha_PZ (by (try simp only [he49.eq, hzf39_0.eq, true_and, and_true]) <;> omega) (by (try simp only [he49.eq, hzf39_0.eq, true_and, and_true]) <;> omega) (fun j hj => by rw [he49.eq] at hj; rw [hRe j (by omega)]; unfold jTj; rw [if_pos (by omega)]) (Nat.lt_succ_self _)
      · exact False.elim (by omega)
    · exact False.elim (by omega)
set_option maxRecDepth 100000 in
set_option maxHeartbeats 8000000 in
theorem w_X7_turnBack_bad {tS : jTS} (d : Nat) (V0 : jH) (a0 : Nat) (x1 : Int32) (v0 : Int32) (gr : Nat) (mn : Nat) (sp : Nat) (rw : Nat) (px : Nat) (py : Nat) (pz : Nat) (GA : Nat → Int32) (MN : Nat → Int32) (SP : Nat → Int32) (RW : Nat → Int32) (PX : Nat → Int32) (PY : Nat → Int32) (PZ : Nat → Int32) (hd : 2 ≤ d) (hW : WT V0) (ha0 : jis V0 (.inr 5) a0) (hf_v0 : jfI V0 a0 5 0 v0) (hr_gr : jfR V0 a0 5 1 gr) (hr_mn : jfR V0 a0 5 2 mn) (hr_sp : jfR V0 a0 5 3 sp) (hr_rw : jfR V0 a0 5 4 rw) (hr_px : jfR V0 a0 5 6 px) (hr_py : jfR V0 a0 5 7 py) (hr_pz : jfR V0 a0 5 8 pz) (ha_GA : V0 gr = some (.inl (14, 16, .inl GA))) (ha_MN : V0 mn = some (.inl (15, 16, .inl MN))) (ha_SP : V0 sp = some (.inl (16, 960, .inl SP))) (ha_RW : V0 rw = some (.inl (17, 120, .inl RW))) (ha_PX : V0 px = some (.inl (18, 121, .inl PX))) (ha_PY : V0 py = some (.inl (19, 121, .inl PY))) (ha_PZ : V0 pz = some (.inl (20, 121, .inl PZ))) (hp0 : ¬ (0 ≤ x1.toInt ∧ x1.toInt < v0.toInt)) : jTot tS mX7_turnBack d [.ref a0, .int x1] V0 0 0 (fun r V => (fun r _ => ∃ y : Int32, r = some (.int y) ∧ ((-2147483648) ≤ y.toInt) ∧ (y.toInt ≤ 2147483647) ∧ (y.toInt = -2)) r V ∧ V = V0) := by
  refine jTot.of_J [some (.ref a0), some (.int x1), none] moX7_turnBack (Nat.le_of_ble_eq_true rfl) rfl ?_
  have hrx1 := j_rng x1
  have he : jeff [] V0 V0 := jeff.refl _ _
  obtain ⟨fs_a0, hO_a0, hK_a0⟩ := WT_obj hW id ha0
  have hF_v0 := hf_v0.get hO_a0
  have hrv0 : 0 ≤ v0.toInt ∧ v0.toInt ≤ 16 := jok_rngI hK_a0 rfl hF_v0
  have hF_gr := hr_gr.get hO_a0
  obtain ⟨w_gr, hFq_gr, b_gr, hbq_gr, hb_gr⟩ := hK_a0.2 1 (.inr (some (.inl 14))) rfl
  cases hF_gr.symm.trans (hFq_gr.trans (congrArg some hbq_gr))
  have hF_mn := hr_mn.get hO_a0
  obtain ⟨w_mn, hFq_mn, b_mn, hbq_mn, hb_mn⟩ := hK_a0.2 2 (.inr (some (.inl 15))) rfl
  cases hF_mn.symm.trans (hFq_mn.trans (congrArg some hbq_mn))
  have hF_sp := hr_sp.get hO_a0
  obtain ⟨w_sp, hFq_sp, b_sp, hbq_sp, hb_sp⟩ := hK_a0.2 3 (.inr (some (.inl 16))) rfl
  cases hF_sp.symm.trans (hFq_sp.trans (congrArg some hbq_sp))
  have hF_rw := hr_rw.get hO_a0
  obtain ⟨w_rw, hFq_rw, b_rw, hbq_rw, hb_rw⟩ := hK_a0.2 4 (.inr (some (.inl 17))) rfl
  cases hF_rw.symm.trans (hFq_rw.trans (congrArg some hbq_rw))
  have hF_px := hr_px.get hO_a0
  obtain ⟨w_px, hFq_px, b_px, hbq_px, hb_px⟩ := hK_a0.2 6 (.inr (some (.inl 18))) rfl
  cases hF_px.symm.trans (hFq_px.trans (congrArg some hbq_px))
  have hF_py := hr_py.get hO_a0
  obtain ⟨w_py, hFq_py, b_py, hbq_py, hb_py⟩ := hK_a0.2 7 (.inr (some (.inl 19))) rfl
  cases hF_py.symm.trans (hFq_py.trans (congrArg some hbq_py))
  have hF_pz := hr_pz.get hO_a0
  obtain ⟨w_pz, hFq_pz, b_pz, hbq_pz, hb_pz⟩ := hK_a0.2 8 (.inr (some (.inl 20))) rfl
  cases hF_pz.symm.trans (hFq_pz.trans (congrArg some hbq_pz))
  obtain ⟨hN_GA, hv_GA⟩ := WT_rngI (r := (0, 3)) hW id rfl ha_GA
  clear hN_GA
  obtain ⟨hN_MN, hv_MN⟩ := WT_rngI (r := (0, 60)) hW id rfl ha_MN
  clear hN_MN
  obtain ⟨hN_SP, hv_SP⟩ := WT_rngI (r := ((-2147483648), 2147483647)) hW id rfl ha_SP
  clear hN_SP
  obtain ⟨hN_RW, hv_RW⟩ := WT_rngI (r := ((-2147483648), 2147483647)) hW id rfl ha_RW
  clear hN_RW
  obtain ⟨hN_PX, hv_PX⟩ := WT_rngI (r := ((-2147483648), 2147483647)) hW id rfl ha_PX
  clear hN_PX
  obtain ⟨hN_PY, hv_PY⟩ := WT_rngI (r := ((-2147483648), 2147483647)) hW id rfl ha_PY
  clear hN_PY
  obtain ⟨hN_PZ, hv_PZ⟩ := WT_rngI (r := ((-2147483648), 2147483647)) hW id rfl ha_PZ
  clear hN_PZ
  refine J_aload_n dX7_turnBack_0 rfl ?_
  refine J_iload_n dX7_turnBack_1 rfl ?_
  refine Jw_callV1 (q9 := (RX7, TX7, 34)) moX7_isWalk jw_ml_X7_130 jw_im_X7_isWalk jw_se_X7_isWalk ha0 rfl rfl dX7_turnBack_2 (w_X7_isWalk_z (d - 1) _ a0 x1 v0 (by omega) hW  ha0 ⟨_, hO_a0, hF_v0⟩) (by omega) (Nat.zero_le _) (Nat.zero_le _) (Nat.le_of_ble_eq_true rfl) (fun r2 V2 h2 => ?_)
  obtain ⟨⟨y2, rfl, hl2, hh2, hP2_0⟩, hE2⟩ := h2
  have hE2 := hE2.symm
  subst hE2
  refine Jz_if_ne (tgt := 11) jEq.rf dX7_turnBack_5 (by decide) (fun c5 => ?_) (fun c5 => ?_)
  · exact False.elim (by omega)
  · refine Jz_bipush (-2) dX7_turnBack_8 (by decide) (fun y8 he8 => ?_)
    exact J_ret (r := some (.int _)) dX7_turnBack_10 ⟨rfl, _, rfl, rfl⟩ (⟨⟨_, rfl, (j_rng _).1, (j_rng _).2, (by (try simp only [he8.eq, true_and, and_true]) <;> omega)⟩, rfl⟩)
set_option maxRecDepth 100000 in
set_option maxHeartbeats 8000000 in
theorem w_X7_turnBack_odd {tS : jTS} (d : Nat) (V0 : jH) (a0 : Nat) (x1 : Int32) (v0 : Int32) (gr : Nat) (mn : Nat) (sp : Nat) (rw : Nat) (px : Nat) (py : Nat) (pz : Nat) (GA : Nat → Int32) (MN : Nat → Int32) (SP : Nat → Int32) (RW : Nat → Int32) (PX : Nat → Int32) (PY : Nat → Int32) (PZ : Nat → Int32) (hd : 2 ≤ d) (hW : WT V0) (ha0 : jis V0 (.inr 5) a0) (hf_v0 : jfI V0 a0 5 0 v0) (hr_gr : jfR V0 a0 5 1 gr) (hr_mn : jfR V0 a0 5 2 mn) (hr_sp : jfR V0 a0 5 3 sp) (hr_rw : jfR V0 a0 5 4 rw) (hr_px : jfR V0 a0 5 6 px) (hr_py : jfR V0 a0 5 7 py) (hr_pz : jfR V0 a0 5 8 pz) (ha_GA : V0 gr = some (.inl (14, 16, .inl GA))) (ha_MN : V0 mn = some (.inl (15, 16, .inl MN))) (ha_SP : V0 sp = some (.inl (16, 960, .inl SP))) (ha_RW : V0 rw = some (.inl (17, 120, .inl RW))) (ha_PX : V0 px = some (.inl (18, 121, .inl PX))) (ha_PY : V0 py = some (.inl (19, 121, .inl PY))) (ha_PZ : V0 pz = some (.inl (20, 121, .inl PZ))) (hp0 : 0 ≤ x1.toInt) (hp1 : x1.toInt < v0.toInt) (hp2 : (GA x1.toInt.toNat).toInt = 2) (hp3 : ¬ ((jPt (GA x1.toInt.toNat).toInt (fun q => (SP (60 * x1.toInt.toNat + q)).toInt) (MN x1.toInt.toNat).toInt.toNat).1 + (jPt (GA x1.toInt.toNat).toInt (fun q => (SP (60 * x1.toInt.toNat + q)).toInt) (MN x1.toInt.toNat).toInt.toNat).2.1) % 2 = 0) : jTot tS mX7_turnBack d [.ref a0, .int x1] V0 0 0 (fun r V => (jPost [.inr 5, .inl 17, .inl 18, .inl 19, .inl 20] V0 (fun r _ => ∃ y : Int32, r = some (.int y) ∧ ((-2147483648) ≤ y.toInt) ∧ (y.toInt ≤ 2147483647) ∧ (y.toInt = -3))) r V ∧ jkc 5 [0, 23, 24] V0 V) := by
  refine jTot.of_J [some (.ref a0), some (.int x1), none] moX7_turnBack (Nat.le_of_ble_eq_true rfl) rfl ?_
  have hrx1 := j_rng x1
  have he : jeff [.inr 5, .inl 17, .inl 18, .inl 19, .inl 20] V0 V0 := jeff.refl _ _
  have hkp : jkc 5 [0, 23, 24] V0 V0 := jkc.rf
  obtain ⟨fs_a0, hO_a0, hK_a0⟩ := WT_obj hW id ha0
  have hF_v0 := hf_v0.get hO_a0
  have hrv0 : 0 ≤ v0.toInt ∧ v0.toInt ≤ 16 := jok_rngI hK_a0 rfl hF_v0
  have hF_gr := hr_gr.get hO_a0
  obtain ⟨w_gr, hFq_gr, b_gr, hbq_gr, hb_gr⟩ := hK_a0.2 1 (.inr (some (.inl 14))) rfl
  cases hF_gr.symm.trans (hFq_gr.trans (congrArg some hbq_gr))
  have hF_mn := hr_mn.get hO_a0
  obtain ⟨w_mn, hFq_mn, b_mn, hbq_mn, hb_mn⟩ := hK_a0.2 2 (.inr (some (.inl 15))) rfl
  cases hF_mn.symm.trans (hFq_mn.trans (congrArg some hbq_mn))
  have hF_sp := hr_sp.get hO_a0
  obtain ⟨w_sp, hFq_sp, b_sp, hbq_sp, hb_sp⟩ := hK_a0.2 3 (.inr (some (.inl 16))) rfl
  cases hF_sp.symm.trans (hFq_sp.trans (congrArg some hbq_sp))
  have hF_rw := hr_rw.get hO_a0
  obtain ⟨w_rw, hFq_rw, b_rw, hbq_rw, hb_rw⟩ := hK_a0.2 4 (.inr (some (.inl 17))) rfl
  cases hF_rw.symm.trans (hFq_rw.trans (congrArg some hbq_rw))
  have hF_px := hr_px.get hO_a0
  obtain ⟨w_px, hFq_px, b_px, hbq_px, hb_px⟩ := hK_a0.2 6 (.inr (some (.inl 18))) rfl
  cases hF_px.symm.trans (hFq_px.trans (congrArg some hbq_px))
  have hF_py := hr_py.get hO_a0
  obtain ⟨w_py, hFq_py, b_py, hbq_py, hb_py⟩ := hK_a0.2 7 (.inr (some (.inl 19))) rfl
  cases hF_py.symm.trans (hFq_py.trans (congrArg some hbq_py))
  have hF_pz := hr_pz.get hO_a0
  obtain ⟨w_pz, hFq_pz, b_pz, hbq_pz, hb_pz⟩ := hK_a0.2 8 (.inr (some (.inl 20))) rfl
  cases hF_pz.symm.trans (hFq_pz.trans (congrArg some hbq_pz))
  obtain ⟨hN_GA, hv_GA⟩ := WT_rngI (r := (0, 3)) hW id rfl ha_GA
  clear hN_GA
  obtain ⟨hN_MN, hv_MN⟩ := WT_rngI (r := (0, 60)) hW id rfl ha_MN
  clear hN_MN
  obtain ⟨hN_SP, hv_SP⟩ := WT_rngI (r := ((-2147483648), 2147483647)) hW id rfl ha_SP
  clear hN_SP
  obtain ⟨hN_RW, hv_RW⟩ := WT_rngI (r := ((-2147483648), 2147483647)) hW id rfl ha_RW
  clear hN_RW
  obtain ⟨hN_PX, hv_PX⟩ := WT_rngI (r := ((-2147483648), 2147483647)) hW id rfl ha_PX
  clear hN_PX
  obtain ⟨hN_PY, hv_PY⟩ := WT_rngI (r := ((-2147483648), 2147483647)) hW id rfl ha_PY
  clear hN_PY
  obtain ⟨hN_PZ, hv_PZ⟩ := WT_rngI (r := ((-2147483648), 2147483647)) hW id rfl ha_PZ
  clear hN_PZ
  refine J_aload_n dX7_turnBack_0 rfl ?_
  refine J_iload_n dX7_turnBack_1 rfl ?_
  refine Jw_callV1 (q9 := (RX7, TX7, 34)) moX7_isWalk jw_ml_X7_130 jw_im_X7_isWalk jw_se_X7_isWalk ha0 rfl rfl dX7_turnBack_2 (w_X7_isWalk_z (d - 1) _ a0 x1 v0 (by omega) hW  ha0 ⟨_, hO_a0, hF_v0⟩) (by omega) (Nat.zero_le _) (Nat.zero_le _) (Nat.le_of_ble_eq_true rfl) (fun r2 V2 h2 => ?_)
  obtain ⟨⟨y2, rfl, hl2, hh2, hP2_0⟩, hE2⟩ := h2
  have hE2 := hE2.symm
  subst hE2
  refine Jz_if_ne (tgt := 11) jEq.rf dX7_turnBack_5 (by decide) (fun c5 => ?_) (fun c5 => ?_)
  · refine J_aload_n dX7_turnBack_11 rfl ?_
    refine J_iload_n dX7_turnBack_12 rfl ?_
    have hmr := hv_MN x1.toInt.toNat (by omega)
    dsimp only at hmr
    refine Jw_callV1 (q9 := (RX7, TX7, 34)) moX7_brings jw_ml_X7_137 jw_im_X7_brings jw_se_X7_brings ha0 rfl rfl dX7_turnBack_13 (w_X7_brings_z (d - 1) _ a0 x1 mn sp rw MN SP RW (by omega) hW  ha0 ⟨_, hO_a0, hF_mn⟩ ⟨_, hO_a0, hF_sp⟩ ⟨_, hO_a0, hF_rw⟩ ha_MN ha_SP ha_RW (by omega) (by omega)) (by omega) (Nat.zero_le _) (Nat.zero_le _) (Nat.le_of_ble_eq_true rfl) (fun r13 V13 h13 => ?_)
    obtain ⟨h13, hX13_0, hX13_1, ⟨fv13_0, hfv13_0, hfp13_0⟩⟩ := h13
    obtain ⟨hW, hx13, hr13⟩ := h13
    have he := he.trans (hx13.sub (jsub_of rfl))
    have hkp := hkp.trans hX13_1
    have ha0 := ha0.mono hx13.1
    have hb_gr := hb_gr.mono hx13.1
    have hb_mn := hb_mn.mono hx13.1
    have hb_sp := hb_sp.mono hx13.1
    have hb_rw := hb_rw.mono hx13.1
    have hb_px := hb_px.mono hx13.1
    have hb_py := hb_py.mono hx13.1
    have hb_pz := hb_pz.mono hx13.1
    obtain ⟨fs13a0, hOfs13a0, hRfs13a0⟩ := hx13.1.keep hO_a0
    have hKfs13a0 : jokO _ (jFs 5) fs13a0 := hW _ _ id hOfs13a0
    have hFfs13a0_1 := hRfs13a0 _ _ hF_gr
    have hFfs13a0_2 := hRfs13a0 _ _ hF_mn
    have hFfs13a0_3 := hRfs13a0 _ _ hF_sp
    have hFfs13a0_4 := hRfs13a0 _ _ hF_rw
    have hFfs13a0_6 := hRfs13a0 _ _ hF_px
    have hFfs13a0_7 := hRfs13a0 _ _ hF_py
    have hFfs13a0_8 := hRfs13a0 _ _ hF_pz
    have ha_GA := hx13.2 _ _ ha_GA (jnot_of rfl)
    have ha_MN := hx13.2 _ _ ha_MN (jnot_of rfl)
    have ha_SP := hx13.2 _ _ ha_SP (jnot_of rfl)
    have ha_PX := hx13.2 _ _ ha_PX (jnot_of rfl)
    have ha_PY := hx13.2 _ _ ha_PY (jnot_of rfl)
    have ha_PZ := hx13.2 _ _ ha_PZ (jnot_of rfl)
    cases hr13
    have hFv13_0 := hfv13_0.get hOfs13a0
    have hzf13_0 : jEq fv13_0.toInt ((MN (x1.toInt).toNat).toInt) := hfp13_0
    clear hfp13_0
    obtain ⟨R2, hR2, hRe⟩ := hX13_0
    obtain ⟨hN_R2, hv_R2⟩ := WT_rngI (r := ((-2147483648), 2147483647)) hW id rfl hR2
    clear hN_R2
    refine J_aload_n dX7_turnBack_16 rfl ?_
    refine J_aload_n dX7_turnBack_17 rfl ?_
    refine J_get jf_X7_7 dX7_turnBack_18 hOfs13a0 hFfs13a0_1 ?_
    refine J_iload_n dX7_turnBack_21 rfl ?_
    refine Jz_iald (r := (0, 3)) jEq.rf dX7_turnBack_22 ha_GA rfl hv_GA (by omega) (by omega) (fun y22 hf22 hl22 hh22 => ?_)
    dsimp only at hl22 hh22
    have hq22 : (GA x1.toInt.toNat).toInt = y22.toInt := by rw [hf22]
    refine Jw_callV1 (q9 := (RX7, TX7, 34)) moX7_goes jw_ml_X7_122 jw_im_X7_goes jw_se_X7_goes ha0 rfl rfl dX7_turnBack_23 (w_X7_goes_z (d - 1) _ a0 y22 fv13_0 rw px py pz R2 PX PY PZ (by omega) hW  ha0 ⟨_, hOfs13a0, hFv13_0⟩ ⟨_, hOfs13a0, hFfs13a0_4⟩ ⟨_, hOfs13a0, hFfs13a0_6⟩ ⟨_, hOfs13a0, hFfs13a0_7⟩ ⟨_, hOfs13a0, hFfs13a0_8⟩ hR2 ha_PX ha_PY ha_PZ (by omega) (by omega)) (by omega) (Nat.zero_le _) (Nat.zero_le _) (Nat.le_of_ble_eq_true rfl) (fun r23 V23 h23 => ?_)
    obtain ⟨h23, hX23_0⟩ := h23
    obtain ⟨hW, hx23, hr23⟩ := h23
    have he := he.trans (hx23.sub (jsub_of rfl))
    have hkp := hkp.trans (jkc.of hx23 (jnot_of rfl))
    have ha0 := ha0.mono hx23.1
    have hb_gr := hb_gr.mono hx23.1
    have hb_mn := hb_mn.mono hx23.1
    have hb_sp := hb_sp.mono hx23.1
    have hb_rw := hb_rw.mono hx23.1
    have hb_px := hb_px.mono hx23.1
    have hb_py := hb_py.mono hx23.1
    have hb_pz := hb_pz.mono hx23.1
    have hOfs13a0 := hx23.2 _ _ hOfs13a0 (jnot_of rfl)
    have hKfs13a0 := hKfs13a0.mono hx23.1
    have ha_GA := hx23.2 _ _ ha_GA (jnot_of rfl)
    have ha_MN := hx23.2 _ _ ha_MN (jnot_of rfl)
    have ha_SP := hx23.2 _ _ ha_SP (jnot_of rfl)
    have hR2 := hx23.2 _ _ hR2 (jnot_of rfl)
    obtain ⟨y23, rfl, hl23, hh23, hP23_0⟩ := hr23
    try simp only [hzf13_0.eq] at hP23_0
    obtain ⟨X9, Y9, Z9, hX9, hY9, hZ9, hjv⟩ := hX23_0
    simp only [hzf13_0.eq, ← hq22] at hjv
    have hb9 := hjv.b (MN x1.toInt.toNat).toInt.toNat (Nat.le_refl _)
    obtain ⟨hN_X9, hv_X9⟩ := WT_rngI (r := ((-2147483648), 2147483647)) hW id rfl hX9
    clear hN_X9
    obtain ⟨hN_Y9, hv_Y9⟩ := WT_rngI (r := ((-2147483648), 2147483647)) hW id rfl hY9
    clear hN_Y9
    obtain ⟨hN_Z9, hv_Z9⟩ := WT_rngI (r := ((-2147483648), 2147483647)) hW id rfl hZ9
    clear hN_Z9
    refine J_pop dX7_turnBack_26 rfl ?_
    refine J_aload_n dX7_turnBack_27 rfl ?_
    refine J_get jf_X7_7 dX7_turnBack_28 hOfs13a0 hFfs13a0_1 ?_
    refine J_iload_n dX7_turnBack_31 rfl ?_
    refine Jz_iald (r := (0, 3)) jEq.rf dX7_turnBack_32 ha_GA rfl hv_GA (by omega) (by omega) (fun y32 hf32 hl32 hh32 => ?_)
    dsimp only at hl32 hh32
    clear hl32 hh32
    have he32 : jEq y32.toInt (y22.toInt) := by rw [← hf32, hf22]; exact jEq.rf
    refine Jz_iconst 2 dX7_turnBack_33 (by decide) (fun y33 he33 => ?_)
    refine Jz_icmp_ne (tgt := 65) he32 he33 dX7_turnBack_34 (by decide) (fun c34 => ?_) (fun c34 => ?_)
    · exact False.elim (by omega)
    · refine J_aload_n dX7_turnBack_37 rfl ?_
      refine J_get jf_X7_22 dX7_turnBack_38 hOfs13a0 hFfs13a0_6 ?_
      refine J_aload_n dX7_turnBack_41 rfl ?_
      refine J_get jf_X7_109 dX7_turnBack_42 hOfs13a0 hFv13_0 ?_
      refine Jz_iald (r := ((-2147483648), 2147483647)) hzf13_0 dX7_turnBack_45 hX9 rfl hv_X9 (by omega) (by omega) (fun y45 hf45 hl45 hh45 => ?_)
      dsimp only at hl45 hh45
      clear hl45 hh45
      rw [hf45] at hb9
      refine J_aload_n dX7_turnBack_46 rfl ?_
      refine J_get jf_X7_25 dX7_turnBack_47 hOfs13a0 hFfs13a0_7 ?_
      refine J_aload_n dX7_turnBack_50 rfl ?_
      refine J_get jf_X7_109 dX7_turnBack_51 hOfs13a0 hFv13_0 ?_
      refine Jz_iald (r := ((-2147483648), 2147483647)) hzf13_0 dX7_turnBack_54 hY9 rfl hv_Y9 (by omega) (by omega) (fun y54 hf54 hl54 hh54 => ?_)
      dsimp only at hl54 hh54
      clear hl54 hh54
      rw [hf54] at hb9
      have hpar : y45.toInt + y54.toInt = (jPt (GA x1.toInt.toNat).toInt (fun q => (SP (60 * x1.toInt.toNat + q)).toInt) (MN x1.toInt.toNat).toInt.toNat).1 + (jPt (GA x1.toInt.toNat).toInt (fun q => (SP (60 * x1.toInt.toNat + q)).toInt) (MN x1.toInt.toNat).toInt.toNat).2.1 := by have q := hjv (MN x1.toInt.toNat).toInt.toNat (Nat.le_refl _); rw [hf45, hf54, jPt_congr (U := (fun q => (SP (60 * x1.toInt.toNat + q)).toInt)) _ (fun k hk => by show (R2 k).toInt = _; rw [hRe k (by omega)])] at q; omega
      refine Jz_iadd jEq.rf jEq.rf dX7_turnBack_55 (by omega) (by omega) (fun y55 he55 => ?_)
      refine Jz_iconst 1 dX7_turnBack_56 (by decide) (fun y56 he56 => ?_)
      refine J_iand dX7_turnBack_57 ?_
      have hz57 : jEq (y55 &&& y56).toInt ((y45.toInt + y54.toInt) % 2) := by rw [show y56 = 1 from jI_inj.mp he56.eq, jand1 y55, he55.eq]; rfl
      generalize y55 &&& y56 = y57 at hz57 ⊢
      refine Jz_iconst 1 dX7_turnBack_58 (by decide) (fun y58 he58 => ?_)
      refine Jz_icmp_ne (tgt := 65) hz57 he58 dX7_turnBack_59 (by decide) (fun c59 => ?_) (fun c59 => ?_)
      · exact False.elim (by omega)
      · refine Jz_bipush (-3) dX7_turnBack_62 (by decide) (fun y62 he62 => ?_)
        exact J_ret (r := some (.int _)) dX7_turnBack_64 ⟨rfl, _, rfl, rfl⟩ (⟨⟨hW, he, ⟨_, rfl, (j_rng _).1, (j_rng _).2, (by (try simp only [he62.eq, true_and, and_true]) <;> omega)⟩⟩, hkp⟩)
  · exact False.elim (by omega)
set_option maxRecDepth 100000 in
set_option maxHeartbeats 8000000 in
theorem w_X7_turnBack_ok {tS : jTS} (d : Nat) (V0 : jH) (a0 : Nat) (x1 : Int32) (v0 : Int32) (gr : Nat) (mn : Nat) (sp : Nat) (rw : Nat) (px : Nat) (py : Nat) (pz : Nat) (GA : Nat → Int32) (MN : Nat → Int32) (SP : Nat → Int32) (RW : Nat → Int32) (PX : Nat → Int32) (PY : Nat → Int32) (PZ : Nat → Int32) (hd : 2 ≤ d) (hW : WT V0) (ha0 : jis V0 (.inr 5) a0) (hf_v0 : jfI V0 a0 5 0 v0) (hr_gr : jfR V0 a0 5 1 gr) (hr_mn : jfR V0 a0 5 2 mn) (hr_sp : jfR V0 a0 5 3 sp) (hr_rw : jfR V0 a0 5 4 rw) (hr_px : jfR V0 a0 5 6 px) (hr_py : jfR V0 a0 5 7 py) (hr_pz : jfR V0 a0 5 8 pz) (ha_GA : V0 gr = some (.inl (14, 16, .inl GA))) (ha_MN : V0 mn = some (.inl (15, 16, .inl MN))) (ha_SP : V0 sp = some (.inl (16, 960, .inl SP))) (ha_RW : V0 rw = some (.inl (17, 120, .inl RW))) (ha_PX : V0 px = some (.inl (18, 121, .inl PX))) (ha_PY : V0 py = some (.inl (19, 121, .inl PY))) (ha_PZ : V0 pz = some (.inl (20, 121, .inl PZ))) (hp0 : 0 ≤ x1.toInt) (hp1 : x1.toInt < v0.toInt) (hp2 : (GA x1.toInt.toNat).toInt = 2 → ((jPt (GA x1.toInt.toNat).toInt (fun q => (SP (60 * x1.toInt.toNat + q)).toInt) (MN x1.toInt.toNat).toInt.toNat).1 + (jPt (GA x1.toInt.toNat).toInt (fun q => (SP (60 * x1.toInt.toNat + q)).toInt) (MN x1.toInt.toNat).toInt.toNat).2.1) % 2 = 0) (hp3 : ∀ j : Nat, (j : Int) < (MN x1.toInt.toNat).toInt → 0 ≤ (SP (60 * x1.toInt.toNat + j)).toInt ∧ (SP (60 * x1.toInt.toNat + j)).toInt < jdir (GA x1.toInt.toNat).toInt) : jTot tS mX7_turnBack d [.ref a0, .int x1] V0 0 0 (fun r V => (jPost [.inr 5, .inl 17, .inl 18, .inl 19, .inl 20, .inl 15, .inl 16] V0 (fun r _ => ∃ y : Int32, r = some (.int y) ∧ ((-2147483648) ≤ y.toInt) ∧ (y.toInt ≤ 2147483647) ∧ (y.toInt = (MN x1.toInt.toNat).toInt))) r V ∧ (∃ M2 : Nat → Int32, V mn = some (.inl (15, 16, .inl M2)) ∧ (M2 x1.toInt.toNat).toInt = (MN x1.toInt.toNat).toInt ∧ ∀ j : Nat, j ≠ x1.toInt.toNat → M2 j = MN j) ∧ (∃ S2 : Nat → Int32, V sp = some (.inl (16, 960, .inl S2)) ∧ (∀ j : Nat, (j : Int) < (MN x1.toInt.toNat).toInt → (S2 (60 * x1.toInt.toNat + j)).toInt = (jTb (GA x1.toInt.toNat).toInt (fun q => (SP (60 * x1.toInt.toNat + q)).toInt) (MN x1.toInt.toNat).toInt.toNat) j) ∧ ∀ q : Nat, q < 60 * x1.toInt.toNat ∨ 60 * x1.toInt.toNat + 60 ≤ q → S2 q = SP q) ∧ jkc 5 [0, 23, 24] V0 V) := by
  refine jTot.of_J [some (.ref a0), some (.int x1), none] moX7_turnBack (Nat.le_of_ble_eq_true rfl) rfl ?_
  have hrx1 := j_rng x1
  have he : jeff [.inr 5, .inl 17, .inl 18, .inl 19, .inl 20, .inl 15, .inl 16] V0 V0 := jeff.refl _ _
  have hkp : jkc 5 [0, 23, 24] V0 V0 := jkc.rf
  obtain ⟨fs_a0, hO_a0, hK_a0⟩ := WT_obj hW id ha0
  have hF_v0 := hf_v0.get hO_a0
  have hrv0 : 0 ≤ v0.toInt ∧ v0.toInt ≤ 16 := jok_rngI hK_a0 rfl hF_v0
  have hF_gr := hr_gr.get hO_a0
  obtain ⟨w_gr, hFq_gr, b_gr, hbq_gr, hb_gr⟩ := hK_a0.2 1 (.inr (some (.inl 14))) rfl
  cases hF_gr.symm.trans (hFq_gr.trans (congrArg some hbq_gr))
  have hF_mn := hr_mn.get hO_a0
  obtain ⟨w_mn, hFq_mn, b_mn, hbq_mn, hb_mn⟩ := hK_a0.2 2 (.inr (some (.inl 15))) rfl
  cases hF_mn.symm.trans (hFq_mn.trans (congrArg some hbq_mn))
  have hF_sp := hr_sp.get hO_a0
  obtain ⟨w_sp, hFq_sp, b_sp, hbq_sp, hb_sp⟩ := hK_a0.2 3 (.inr (some (.inl 16))) rfl
  cases hF_sp.symm.trans (hFq_sp.trans (congrArg some hbq_sp))
  have hF_rw := hr_rw.get hO_a0
  obtain ⟨w_rw, hFq_rw, b_rw, hbq_rw, hb_rw⟩ := hK_a0.2 4 (.inr (some (.inl 17))) rfl
  cases hF_rw.symm.trans (hFq_rw.trans (congrArg some hbq_rw))
  have hF_px := hr_px.get hO_a0
  obtain ⟨w_px, hFq_px, b_px, hbq_px, hb_px⟩ := hK_a0.2 6 (.inr (some (.inl 18))) rfl
  cases hF_px.symm.trans (hFq_px.trans (congrArg some hbq_px))
  have hF_py := hr_py.get hO_a0
  obtain ⟨w_py, hFq_py, b_py, hbq_py, hb_py⟩ := hK_a0.2 7 (.inr (some (.inl 19))) rfl
  cases hF_py.symm.trans (hFq_py.trans (congrArg some hbq_py))
  have hF_pz := hr_pz.get hO_a0
  obtain ⟨w_pz, hFq_pz, b_pz, hbq_pz, hb_pz⟩ := hK_a0.2 8 (.inr (some (.inl 20))) rfl
  cases hF_pz.symm.trans (hFq_pz.trans (congrArg some hbq_pz))
  obtain ⟨hN_GA, hv_GA⟩ := WT_rngI (r := (0, 3)) hW id rfl ha_GA
  clear hN_GA
  obtain ⟨hN_MN, hv_MN⟩ := WT_rngI (r := (0, 60)) hW id rfl ha_MN
  clear hN_MN
  obtain ⟨hN_SP, hv_SP⟩ := WT_rngI (r := ((-2147483648), 2147483647)) hW id rfl ha_SP
  clear hN_SP
  obtain ⟨hN_RW, hv_RW⟩ := WT_rngI (r := ((-2147483648), 2147483647)) hW id rfl ha_RW
  clear hN_RW
  obtain ⟨hN_PX, hv_PX⟩ := WT_rngI (r := ((-2147483648), 2147483647)) hW id rfl ha_PX
  clear hN_PX
  obtain ⟨hN_PY, hv_PY⟩ := WT_rngI (r := ((-2147483648), 2147483647)) hW id rfl ha_PY
  clear hN_PY
  obtain ⟨hN_PZ, hv_PZ⟩ := WT_rngI (r := ((-2147483648), 2147483647)) hW id rfl ha_PZ
  clear hN_PZ
  refine J_aload_n dX7_turnBack_0 rfl ?_
  refine J_iload_n dX7_turnBack_1 rfl ?_
  refine Jw_callV1 (q9 := (RX7, TX7, 34)) moX7_isWalk jw_ml_X7_130 jw_im_X7_isWalk jw_se_X7_isWalk ha0 rfl rfl dX7_turnBack_2 (w_X7_isWalk_z (d - 1) _ a0 x1 v0 (by omega) hW  ha0 ⟨_, hO_a0, hF_v0⟩) (by omega) (Nat.zero_le _) (Nat.zero_le _) (Nat.le_of_ble_eq_true rfl) (fun r2 V2 h2 => ?_)
  obtain ⟨⟨y2, rfl, hl2, hh2, hP2_0⟩, hE2⟩ := h2
  have hE2 := hE2.symm
  subst hE2
  refine Jz_if_ne (tgt := 11) jEq.rf dX7_turnBack_5 (by decide) (fun c5 => ?_) (fun c5 => ?_)
  · refine J_aload_n dX7_turnBack_11 rfl ?_
    refine J_iload_n dX7_turnBack_12 rfl ?_
    have hmr := hv_MN x1.toInt.toNat (by omega)
    dsimp only at hmr
    refine Jw_callV1 (q9 := (RX7, TX7, 34)) moX7_brings jw_ml_X7_137 jw_im_X7_brings jw_se_X7_brings ha0 rfl rfl dX7_turnBack_13 (w_X7_brings_z (d - 1) _ a0 x1 mn sp rw MN SP RW (by omega) hW  ha0 ⟨_, hO_a0, hF_mn⟩ ⟨_, hO_a0, hF_sp⟩ ⟨_, hO_a0, hF_rw⟩ ha_MN ha_SP ha_RW (by omega) (by omega)) (by omega) (Nat.zero_le _) (Nat.zero_le _) (Nat.le_of_ble_eq_true rfl) (fun r13 V13 h13 => ?_)
    obtain ⟨h13, hX13_0, hX13_1, ⟨fv13_0, hfv13_0, hfp13_0⟩⟩ := h13
    obtain ⟨hW, hx13, hr13⟩ := h13
    have he := he.trans (hx13.sub (jsub_of rfl))
    have hkp := hkp.trans hX13_1
    have ha0 := ha0.mono hx13.1
    have hb_gr := hb_gr.mono hx13.1
    have hb_mn := hb_mn.mono hx13.1
    have hb_sp := hb_sp.mono hx13.1
    have hb_rw := hb_rw.mono hx13.1
    have hb_px := hb_px.mono hx13.1
    have hb_py := hb_py.mono hx13.1
    have hb_pz := hb_pz.mono hx13.1
    obtain ⟨fs13a0, hOfs13a0, hRfs13a0⟩ := hx13.1.keep hO_a0
    have hKfs13a0 : jokO _ (jFs 5) fs13a0 := hW _ _ id hOfs13a0
    have hFfs13a0_1 := hRfs13a0 _ _ hF_gr
    have hFfs13a0_2 := hRfs13a0 _ _ hF_mn
    have hFfs13a0_3 := hRfs13a0 _ _ hF_sp
    have hFfs13a0_4 := hRfs13a0 _ _ hF_rw
    have hFfs13a0_6 := hRfs13a0 _ _ hF_px
    have hFfs13a0_7 := hRfs13a0 _ _ hF_py
    have hFfs13a0_8 := hRfs13a0 _ _ hF_pz
    have ha_GA := hx13.2 _ _ ha_GA (jnot_of rfl)
    have ha_MN := hx13.2 _ _ ha_MN (jnot_of rfl)
    have ha_SP := hx13.2 _ _ ha_SP (jnot_of rfl)
    have ha_PX := hx13.2 _ _ ha_PX (jnot_of rfl)
    have ha_PY := hx13.2 _ _ ha_PY (jnot_of rfl)
    have ha_PZ := hx13.2 _ _ ha_PZ (jnot_of rfl)
    cases hr13
    have hFv13_0 := hfv13_0.get hOfs13a0
    have hzf13_0 : jEq fv13_0.toInt ((MN (x1.toInt).toNat).toInt) := hfp13_0
    clear hfp13_0
    obtain ⟨R2, hR2, hRe⟩ := hX13_0
    obtain ⟨hN_R2, hv_R2⟩ := WT_rngI (r := ((-2147483648), 2147483647)) hW id rfl hR2
    clear hN_R2
    refine J_aload_n dX7_turnBack_16 rfl ?_
    refine J_aload_n dX7_turnBack_17 rfl ?_
    refine J_get jf_X7_7 dX7_turnBack_18 hOfs13a0 hFfs13a0_1 ?_
    refine J_iload_n dX7_turnBack_21 rfl ?_
    refine Jz_iald (r := (0, 3)) jEq.rf dX7_turnBack_22 ha_GA rfl hv_GA (by omega) (by omega) (fun y22 hf22 hl22 hh22 => ?_)
    dsimp only at hl22 hh22
    have hq22 : (GA x1.toInt.toNat).toInt = y22.toInt := by rw [hf22]
    refine Jw_callV1 (q9 := (RX7, TX7, 34)) moX7_goes jw_ml_X7_122 jw_im_X7_goes jw_se_X7_goes ha0 rfl rfl dX7_turnBack_23 (w_X7_goes_z (d - 1) _ a0 y22 fv13_0 rw px py pz R2 PX PY PZ (by omega) hW  ha0 ⟨_, hOfs13a0, hFv13_0⟩ ⟨_, hOfs13a0, hFfs13a0_4⟩ ⟨_, hOfs13a0, hFfs13a0_6⟩ ⟨_, hOfs13a0, hFfs13a0_7⟩ ⟨_, hOfs13a0, hFfs13a0_8⟩ hR2 ha_PX ha_PY ha_PZ (by omega) (by omega)) (by omega) (Nat.zero_le _) (Nat.zero_le _) (Nat.le_of_ble_eq_true rfl) (fun r23 V23 h23 => ?_)
    obtain ⟨h23, hX23_0⟩ := h23
    obtain ⟨hW, hx23, hr23⟩ := h23
    have he := he.trans (hx23.sub (jsub_of rfl))
    have hkp := hkp.trans (jkc.of hx23 (jnot_of rfl))
    have ha0 := ha0.mono hx23.1
    have hb_gr := hb_gr.mono hx23.1
    have hb_mn := hb_mn.mono hx23.1
    have hb_sp := hb_sp.mono hx23.1
    have hb_rw := hb_rw.mono hx23.1
    have hb_px := hb_px.mono hx23.1
    have hb_py := hb_py.mono hx23.1
    have hb_pz := hb_pz.mono hx23.1
    have hOfs13a0 := hx23.2 _ _ hOfs13a0 (jnot_of rfl)
    have hKfs13a0 := hKfs13a0.mono hx23.1
    have ha_GA := hx23.2 _ _ ha_GA (jnot_of rfl)
    have ha_MN := hx23.2 _ _ ha_MN (jnot_of rfl)
    have ha_SP := hx23.2 _ _ ha_SP (jnot_of rfl)
    have hR2 := hx23.2 _ _ hR2 (jnot_of rfl)
    obtain ⟨y23, rfl, hl23, hh23, hP23_0⟩ := hr23
    try simp only [hzf13_0.eq] at hP23_0
    obtain ⟨X9, Y9, Z9, hX9, hY9, hZ9, hjv⟩ := hX23_0
    simp only [hzf13_0.eq, ← hq22] at hjv
    have hb9 := hjv.b (MN x1.toInt.toNat).toInt.toNat (Nat.le_refl _)
    obtain ⟨hN_X9, hv_X9⟩ := WT_rngI (r := ((-2147483648), 2147483647)) hW id rfl hX9
    clear hN_X9
    obtain ⟨hN_Y9, hv_Y9⟩ := WT_rngI (r := ((-2147483648), 2147483647)) hW id rfl hY9
    clear hN_Y9
    obtain ⟨hN_Z9, hv_Z9⟩ := WT_rngI (r := ((-2147483648), 2147483647)) hW id rfl hZ9
    clear hN_Z9
    refine J_pop dX7_turnBack_26 rfl ?_
    refine J_aload_n dX7_turnBack_27 rfl ?_
    refine J_get jf_X7_7 dX7_turnBack_28 hOfs13a0 hFfs13a0_1 ?_
    refine J_iload_n dX7_turnBack_31 rfl ?_
    refine Jz_iald (r := (0, 3)) jEq.rf dX7_turnBack_32 ha_GA rfl hv_GA (by omega) (by omega) (fun y32 hf32 hl32 hh32 => ?_)
    dsimp only at hl32 hh32
    clear hl32 hh32
    have he32 : jEq y32.toInt (y22.toInt) := by rw [← hf32, hf22]; exact jEq.rf
    refine Jz_iconst 2 dX7_turnBack_33 (by decide) (fun y33 he33 => ?_)
    refine Jz_icmp_ne (tgt := 65) he32 he33 dX7_turnBack_34 (by decide) (fun c34 => ?_) (fun c34 => ?_)
    · refine Jz_iconst 0 dX7_turnBack_65 (by decide) (fun y65 he65 => ?_)
      refine J_istore_n dX7_turnBack_66 rfl (by decide) ?_
      have L67 : ∀ (N : Nat) (V : jH) (i2n67 : Int32) (F17n67 : Nat → Int32), WT V → jeff [.inr 5, .inl 17, .inl 18, .inl 19, .inl 20, .inl 15, .inl 16] V0 V → (jis V (.inr 5) a0) → (jis V (.inl 14) gr) → (jis V (.inl 15) mn) → (jis V (.inl 16) sp) → (jis V (.inl 17) rw) → (jis V (.inl 18) px) → (jis V (.inl 19) py) → (jis V (.inl 20) pz) → (jkc 5 [0, 23, 24] V0 V) → (V a0 = some (.inr (5, fs13a0))) → (jokO V (jFs 5) fs13a0) → (V rw = some (.inl (17, 120, .inl F17n67))) → (V gr = some (.inl (14, 16, .inl GA))) → (V mn = some (.inl (15, 16, .inl MN))) → (V sp = some (.inl (16, 960, .inl SP))) → (0 ≤ i2n67.toInt ∧ i2n67.toInt ≤ (MN x1.toInt.toNat).toInt) → (∀ j : Nat, (j : Int) < i2n67.toInt → (F17n67 j).toInt = (jTb (GA x1.toInt.toNat).toInt (fun q => (SP (60 * x1.toInt.toNat + q)).toInt) (MN x1.toInt.toNat).toInt.toNat) j) → (300 - i2n67.toInt).toNat < N → J tS mX7_turnBack d 67 [some (.ref a0), some (.int x1), some (.int i2n67)] [] V 0 0 (fun r V => (jPost [.inr 5, .inl 17, .inl 18, .inl 19, .inl 20, .inl 15, .inl 16] V0 (fun r _ => ∃ y : Int32, r = some (.int y) ∧ ((-2147483648) ≤ y.toInt) ∧ (y.toInt ≤ 2147483647) ∧ (y.toInt = (MN x1.toInt.toNat).toInt))) r V ∧ (∃ M2 : Nat → Int32, V mn = some (.inl (15, 16, .inl M2)) ∧ (M2 x1.toInt.toNat).toInt = (MN x1.toInt.toNat).toInt ∧ ∀ j : Nat, j ≠ x1.toInt.toNat → M2 j = MN j) ∧ (∃ S2 : Nat → Int32, V sp = some (.inl (16, 960, .inl S2)) ∧ (∀ j : Nat, (j : Int) < (MN x1.toInt.toNat).toInt → (S2 (60 * x1.toInt.toNat + j)).toInt = (jTb (GA x1.toInt.toNat).toInt (fun q => (SP (60 * x1.toInt.toNat + q)).toInt) (MN x1.toInt.toNat).toInt.toNat) j) ∧ ∀ q : Nat, q < 60 * x1.toInt.toNat ∨ 60 * x1.toInt.toNat + 60 ≤ q → S2 q = SP q) ∧ jkc 5 [0, 23, 24] V0 V) := by
        intro N
        induction N with
        | zero => intro V i2n67 F17n67 hW he ha0 hb_gr hb_mn hb_sp hb_rw hb_px hb_py hb_pz hkp hOfs13a0 hKfs13a0 hAF17n67 ha_GA ha_MN ha_SP hi2 hra hm; exact absurd hm (Nat.not_lt_zero _)
        | succ N ih =>
          intro V i2n67 F17n67 hW he ha0 hb_gr hb_mn hb_sp hb_rw hb_px hb_py hb_pz hkp hOfs13a0 hKfs13a0 hAF17n67 ha_GA ha_MN ha_SP hi2 hra hm
          have ih67 := ih
          have hri2 := j_rng i2n67
          obtain ⟨hNF17n67, hvF17n67⟩ := WT_rngI (r := ((-2147483648), 2147483647)) hW id rfl hAF17n67
          clear hNF17n67
          refine J_iload_n dX7_turnBack_67 rfl ?_
          refine J_aload_n dX7_turnBack_68 rfl ?_
          refine J_get jf_X7_109 dX7_turnBack_69 hOfs13a0 hFv13_0 ?_
          refine Jz_icmp_ge (tgt := 114) jEq.rf hzf13_0 dX7_turnBack_72 (by decide) (fun c72 => ?_) (fun c72 => ?_)
          · refine J_aload_n dX7_turnBack_114 rfl ?_
            refine J_iload_n dX7_turnBack_115 rfl ?_
            refine Jw_callV1 (q9 := (RX7, TX7, 34)) moX7_keeps jw_ml_X7_126 jw_im_X7_keeps jw_se_X7_keeps ha0 rfl rfl dX7_turnBack_116 (w_X7_keeps_z (d - 1) _ a0 x1 fv13_0 mn sp rw MN SP F17n67 (by omega) hW  ha0 ⟨_, hOfs13a0, hFv13_0⟩ ⟨_, hOfs13a0, hFfs13a0_2⟩ ⟨_, hOfs13a0, hFfs13a0_3⟩ ⟨_, hOfs13a0, hFfs13a0_4⟩ ha_MN ha_SP hAF17n67 (by omega) (by omega) (by rw [hzf13_0.eq]; omega)) (by omega) (Nat.zero_le _) (Nat.zero_le _) (Nat.le_of_ble_eq_true rfl) (fun r116 V116 h116 => ?_)
            obtain ⟨h116, hX116_0, hX116_1⟩ := h116
            obtain ⟨hW, hx116, hr116⟩ := h116
            have he := he.trans (hx116.sub (jsub_of rfl))
            have hkp := hkp.trans (jkc.of hx116 (jnot_of rfl))
            have ha0 := ha0.mono hx116.1
            have hb_gr := hb_gr.mono hx116.1
            have hb_mn := hb_mn.mono hx116.1
            have hb_sp := hb_sp.mono hx116.1
            have hb_rw := hb_rw.mono hx116.1
            have hb_px := hb_px.mono hx116.1
            have hb_py := hb_py.mono hx116.1
            have hb_pz := hb_pz.mono hx116.1
            have hOfs13a0 := hx116.2 _ _ hOfs13a0 (jnot_of rfl)
            have hKfs13a0 := hKfs13a0.mono hx116.1
            have hAF17n67 := hx116.2 _ _ hAF17n67 (jnot_of rfl)
            have ha_GA := hx116.2 _ _ ha_GA (jnot_of rfl)
            cases hr116
            refine J_aload_n dX7_turnBack_119 rfl ?_
            refine J_get jf_X7_109 dX7_turnBack_120 hOfs13a0 hFv13_0 ?_
            exact J_ret (r := some (.int _)) dX7_turnBack_123 ⟨rfl, _, rfl, rfl⟩ (⟨⟨hW, he, ⟨_, rfl, (j_rng _).1, (j_rng _).2, (by (try simp only [hzf13_0.eq, true_and, and_true]) <;> omega)⟩⟩, (hX116_0.imp (fun M2 q => ⟨q.1, by rw [q.2.1, hzf13_0.eq], q.2.2⟩)), (hX116_1.imp (fun S2 q => ⟨q.1, fun j hj => by rw [q.2.1 j (by rw [hzf13_0.eq]; omega)]; exact hra j (by omega), q.2.2⟩)), hkp⟩)
          · refine J_aload_n dX7_turnBack_75 rfl ?_
            refine J_get jf_X7_19 dX7_turnBack_76 hOfs13a0 hFfs13a0_4 ?_
            refine J_iload_n dX7_turnBack_79 rfl ?_
            refine J_aload_n dX7_turnBack_80 rfl ?_
            refine J_get jf_X7_7 dX7_turnBack_81 hOfs13a0 hFfs13a0_1 ?_
            refine J_iload_n dX7_turnBack_84 rfl ?_
            refine Jz_iald (r := (0, 3)) jEq.rf dX7_turnBack_85 ha_GA rfl hv_GA (by omega) (by omega) (fun y85 hf85 hl85 hh85 => ?_)
            dsimp only at hl85 hh85
            clear hl85 hh85
            have he85 : jEq y85.toInt (y22.toInt) := by rw [← hf85, hf22]; exact jEq.rf
            refine J_aload_n dX7_turnBack_86 rfl ?_
            refine J_get jf_X7_16 dX7_turnBack_87 hOfs13a0 hFfs13a0_3 ?_
            refine Jz_bipush 60 dX7_turnBack_90 (by decide) (fun y90 he90 => ?_)
            refine J_iload_n dX7_turnBack_92 rfl ?_
            refine Jz_imul he90 jEq.rf dX7_turnBack_93 (by omega) (by omega) (fun y93 he93 => ?_)
            refine J_aload_n dX7_turnBack_94 rfl ?_
            refine J_get jf_X7_109 dX7_turnBack_95 hOfs13a0 hFv13_0 ?_
            refine Jz_iadd he93 hzf13_0 dX7_turnBack_98 (by omega) (by omega) (fun y98 he98 => ?_)
            refine Jz_iconst 1 dX7_turnBack_99 (by decide) (fun y99 he99 => ?_)
            refine Jz_isub he98 he99 dX7_turnBack_100 (by omega) (by omega) (fun y100 he100 => ?_)
            refine J_iload_n dX7_turnBack_101 rfl ?_
            refine Jz_isub he100 jEq.rf dX7_turnBack_102 (by omega) (by omega) (fun y102 he102 => ?_)
            refine Jz_iald (r := ((-2147483648), 2147483647)) he102 dX7_turnBack_103 ha_SP rfl hv_SP (by omega) (by omega) (fun y103 hf103 hl103 hh103 => ?_)
            dsimp only at hl103 hh103
            clear hl103 hh103
            have hq103 : (SP (60 * x1.toInt.toNat + ((MN x1.toInt.toNat).toInt.toNat - 1 - i2n67.toInt.toNat))).toInt = y103.toInt := by rw [← hf103]; exact congrArg (fun z => (SP z).toInt) (by omega)
            have hpd := hp3 ((MN x1.toInt.toNat).toInt.toNat - 1 - i2n67.toInt.toNat) (by omega)
            rw [hq22, hq103] at hpd
            refine J_callS2 moX7_opposite jw_ml_X7_149 jw_st_X7_opposite dX7_turnBack_104 (w_X7_opposite_z (d - 1) _ y85 y103 (by omega)   (by (try simp only [he85.eq, true_and, and_true]) <;> omega) (by (try simp only [he85.eq, true_and, and_true]) <;> omega) (by omega) (by (try simp only [he85.eq, true_and, and_true]) <;> omega)) (by omega) (Nat.zero_le _) (Nat.zero_le _) (Nat.le_of_ble_eq_true rfl) (fun r104 V104 h104 => ?_)
            obtain ⟨⟨y104, rfl, hl104, hh104, hP104_0⟩, hE104⟩ := h104
            have hE104 := hE104.symm
            subst hE104
            clear hl104 hh104
            try simp only [he85.eq] at hP104_0
            have hz104 : jEq y104.toInt (jopp (y22.toInt) (y103.toInt)) := hP104_0
            clear hP104_0
            have hob := jopp_b (g := y22.toInt) (d := y103.toInt) (by omega) (by omega)
            have hdc := jdir_cases y22.toInt
            refine Jz_iast (r := ((-2147483648), 2147483647)) jEq.rf hz104 hW id dX7_turnBack_107 hAF17n67 rfl rfl (by omega) (by omega) (by omega) (by omega) (fun V107 G107 hW hx107 hA107 hp107 ho107 => ?_)
            obtain ⟨hN107, hv107⟩ := WT_rngI (r := ((-2147483648), 2147483647)) hW id rfl hA107
            clear hN107
            have he := he.trans (hx107.sub (jsub_of rfl))
            have hkp := hkp.trans (jkc.of hx107 (jnot_of rfl))
            have ha0 := ha0.mono hx107.1
            have hb_gr := hb_gr.mono hx107.1
            have hb_mn := hb_mn.mono hx107.1
            have hb_sp := hb_sp.mono hx107.1
            have hb_rw := hb_rw.mono hx107.1
            have hb_px := hb_px.mono hx107.1
            have hb_py := hb_py.mono hx107.1
            have hb_pz := hb_pz.mono hx107.1
            have hOfs13a0 := hx107.2 _ _ hOfs13a0 (jnot_of rfl)
            have hKfs13a0 := hKfs13a0.mono hx107.1
            have ha_GA := hx107.2 _ _ ha_GA (jnot_of rfl)
            have ha_MN := hx107.2 _ _ ha_MN (jnot_of rfl)
            have ha_SP := hx107.2 _ _ ha_SP (jnot_of rfl)
            refine Jz_iinc 1 dX7_turnBack_108 rfl rfl (by decide) jEq.rf (by decide) (by omega) (by omega) (fun y108 he108 => ?_)
            refine J_goto (tgt := 67) dX7_turnBack_111 (by decide) ?_
            refine J.mask [true, true, true] ?_
            exact ih67 _ y108 G107 hW he ha0 hb_gr hb_mn hb_sp hb_rw hb_px hb_py hb_pz hkp hOfs13a0 hKfs13a0 hA107 ha_GA ha_MN ha_SP (by (try simp only [he108.eq, true_and, and_true]) <;> omega) (fun j hj => by rw [he108.eq] at hj; by_cases h9 : (j : Int) = i2n67.toInt; (have e : j = i2n67.toInt.toNat := by omega); subst e; rw [hp107, hz104.eq]; unfold jTb; (show jopp _ _ = jopp _ (SP (60 * x1.toInt.toNat + ((MN x1.toInt.toNat).toInt.toNat - 1 - i2n67.toInt.toNat))).toInt); rw [hq22, hq103]; rw [ho107 j (by omega)]; exact hra j (by omega)) (by (try simp only [he108.eq, true_and, and_true]) <;> omega)
      refine J.mask [true, true, true] ?_
      exact L67 _ _ y65 R2 hW he ha0 hb_gr hb_mn hb_sp hb_rw hb_px hb_py hb_pz hkp hOfs13a0 hKfs13a0 hR2 ha_GA ha_MN ha_SP (by (try simp only [he65.eq, true_and, and_true]) <;> omega) (fun j hj => by rw [he65.eq] at hj; omega) (Nat.lt_succ_self _)
    · refine J_aload_n dX7_turnBack_37 rfl ?_
      refine J_get jf_X7_22 dX7_turnBack_38 hOfs13a0 hFfs13a0_6 ?_
      refine J_aload_n dX7_turnBack_41 rfl ?_
      refine J_get jf_X7_109 dX7_turnBack_42 hOfs13a0 hFv13_0 ?_
      refine Jz_iald (r := ((-2147483648), 2147483647)) hzf13_0 dX7_turnBack_45 hX9 rfl hv_X9 (by omega) (by omega) (fun y45 hf45 hl45 hh45 => ?_)
      dsimp only at hl45 hh45
      clear hl45 hh45
      rw [hf45] at hb9
      refine J_aload_n dX7_turnBack_46 rfl ?_
      refine J_get jf_X7_25 dX7_turnBack_47 hOfs13a0 hFfs13a0_7 ?_
      refine J_aload_n dX7_turnBack_50 rfl ?_
      refine J_get jf_X7_109 dX7_turnBack_51 hOfs13a0 hFv13_0 ?_
      refine Jz_iald (r := ((-2147483648), 2147483647)) hzf13_0 dX7_turnBack_54 hY9 rfl hv_Y9 (by omega) (by omega) (fun y54 hf54 hl54 hh54 => ?_)
      dsimp only at hl54 hh54
      clear hl54 hh54
      rw [hf54] at hb9
      have hpar : y45.toInt + y54.toInt = (jPt (GA x1.toInt.toNat).toInt (fun q => (SP (60 * x1.toInt.toNat + q)).toInt) (MN x1.toInt.toNat).toInt.toNat).1 + (jPt (GA x1.toInt.toNat).toInt (fun q => (SP (60 * x1.toInt.toNat + q)).toInt) (MN x1.toInt.toNat).toInt.toNat).2.1 := by have q := hjv (MN x1.toInt.toNat).toInt.toNat (Nat.le_refl _); rw [hf45, hf54, jPt_congr (U := (fun q => (SP (60 * x1.toInt.toNat + q)).toInt)) _ (fun k hk => by show (R2 k).toInt = _; rw [hRe k (by omega)])] at q; omega
      refine Jz_iadd jEq.rf jEq.rf dX7_turnBack_55 (by omega) (by omega) (fun y55 he55 => ?_)
      refine Jz_iconst 1 dX7_turnBack_56 (by decide) (fun y56 he56 => ?_)
      refine J_iand dX7_turnBack_57 ?_
      have hz57 : jEq (y55 &&& y56).toInt ((y45.toInt + y54.toInt) % 2) := by rw [show y56 = 1 from jI_inj.mp he56.eq, jand1 y55, he55.eq]; rfl
      generalize y55 &&& y56 = y57 at hz57 ⊢
      refine Jz_iconst 1 dX7_turnBack_58 (by decide) (fun y58 he58 => ?_)
      refine Jz_icmp_ne (tgt := 65) hz57 he58 dX7_turnBack_59 (by decide) (fun c59 => ?_) (fun c59 => ?_)
      · refine Jz_iconst 0 dX7_turnBack_65 (by decide) (fun y65 he65 => ?_)
        refine J_istore_n dX7_turnBack_66 rfl (by decide) ?_
        have L67 : ∀ (N : Nat) (V : jH) (i2n67 : Int32) (F17n67 : Nat → Int32), WT V → jeff [.inr 5, .inl 17, .inl 18, .inl 19, .inl 20, .inl 15, .inl 16] V0 V → (jis V (.inr 5) a0) → (jis V (.inl 14) gr) → (jis V (.inl 15) mn) → (jis V (.inl 16) sp) → (jis V (.inl 17) rw) → (jis V (.inl 18) px) → (jis V (.inl 19) py) → (jis V (.inl 20) pz) → (jkc 5 [0, 23, 24] V0 V) → (V a0 = some (.inr (5, fs13a0))) → (jokO V (jFs 5) fs13a0) → (V rw = some (.inl (17, 120, .inl F17n67))) → (V gr = some (.inl (14, 16, .inl GA))) → (V mn = some (.inl (15, 16, .inl MN))) → (V sp = some (.inl (16, 960, .inl SP))) → (0 ≤ i2n67.toInt ∧ i2n67.toInt ≤ (MN x1.toInt.toNat).toInt) → (∀ j : Nat, (j : Int) < i2n67.toInt → (F17n67 j).toInt = (jTb (GA x1.toInt.toNat).toInt (fun q => (SP (60 * x1.toInt.toNat + q)).toInt) (MN x1.toInt.toNat).toInt.toNat) j) → (300 - i2n67.toInt).toNat < N → J tS mX7_turnBack d 67 [some (.ref a0), some (.int x1), some (.int i2n67)] [] V 0 0 (fun r V => (jPost [.inr 5, .inl 17, .inl 18, .inl 19, .inl 20, .inl 15, .inl 16] V0 (fun r _ => ∃ y : Int32, r = some (.int y) ∧ ((-2147483648) ≤ y.toInt) ∧ (y.toInt ≤ 2147483647) ∧ (y.toInt = (MN x1.toInt.toNat).toInt))) r V ∧ (∃ M2 : Nat → Int32, V mn = some (.inl (15, 16, .inl M2)) ∧ (M2 x1.toInt.toNat).toInt = (MN x1.toInt.toNat).toInt ∧ ∀ j : Nat, j ≠ x1.toInt.toNat → M2 j = MN j) ∧ (∃ S2 : Nat → Int32, V sp = some (.inl (16, 960, .inl S2)) ∧ (∀ j : Nat, (j : Int) < (MN x1.toInt.toNat).toInt → (S2 (60 * x1.toInt.toNat + j)).toInt = (jTb (GA x1.toInt.toNat).toInt (fun q => (SP (60 * x1.toInt.toNat + q)).toInt) (MN x1.toInt.toNat).toInt.toNat) j) ∧ ∀ q : Nat, q < 60 * x1.toInt.toNat ∨ 60 * x1.toInt.toNat + 60 ≤ q → S2 q = SP q) ∧ jkc 5 [0, 23, 24] V0 V) := by
          intro N
          induction N with
          | zero => intro V i2n67 F17n67 hW he ha0 hb_gr hb_mn hb_sp hb_rw hb_px hb_py hb_pz hkp hOfs13a0 hKfs13a0 hAF17n67 ha_GA ha_MN ha_SP hi2 hra hm; exact absurd hm (Nat.not_lt_zero _)
          | succ N ih =>
            intro V i2n67 F17n67 hW he ha0 hb_gr hb_mn hb_sp hb_rw hb_px hb_py hb_pz hkp hOfs13a0 hKfs13a0 hAF17n67 ha_GA ha_MN ha_SP hi2 hra hm
            have ih67 := ih
            have hri2 := j_rng i2n67
            obtain ⟨hNF17n67, hvF17n67⟩ := WT_rngI (r := ((-2147483648), 2147483647)) hW id rfl hAF17n67
            clear hNF17n67
            refine J_iload_n dX7_turnBack_67 rfl ?_
            refine J_aload_n dX7_turnBack_68 rfl ?_
            refine J_get jf_X7_109 dX7_turnBack_69 hOfs13a0 hFv13_0 ?_
            refine Jz_icmp_ge (tgt := 114) jEq.rf hzf13_0 dX7_turnBack_72 (by decide) (fun c72 => ?_) (fun c72 => ?_)
            · refine J_aload_n dX7_turnBack_114 rfl ?_
              refine J_iload_n dX7_turnBack_115 rfl ?_
              refine Jw_callV1 (q9 := (RX7, TX7, 34)) moX7_keeps jw_ml_X7_126 jw_im_X7_keeps jw_se_X7_keeps ha0 rfl rfl dX7_turnBack_116 (w_X7_keeps_z (d - 1) _ a0 x1 fv13_0 mn sp rw MN SP F17n67 (by omega) hW  ha0 ⟨_, hOfs13a0, hFv13_0⟩ ⟨_, hOfs13a0, hFfs13a0_2⟩ ⟨_, hOfs13a0, hFfs13a0_3⟩ ⟨_, hOfs13a0, hFfs13a0_4⟩ ha_MN ha_SP hAF17n67 (by omega) (by omega) (by rw [hzf13_0.eq]; omega)) (by omega) (Nat.zero_le _) (Nat.zero_le _) (Nat.le_of_ble_eq_true rfl) (fun r116 V116 h116 => ?_)
              obtain ⟨h116, hX116_0, hX116_1⟩ := h116
              obtain ⟨hW, hx116, hr116⟩ := h116
              have he := he.trans (hx116.sub (jsub_of rfl))
              have hkp := hkp.trans (jkc.of hx116 (jnot_of rfl))
              have ha0 := ha0.mono hx116.1
              have hb_gr := hb_gr.mono hx116.1
              have hb_mn := hb_mn.mono hx116.1
              have hb_sp := hb_sp.mono hx116.1
              have hb_rw := hb_rw.mono hx116.1
              have hb_px := hb_px.mono hx116.1
              have hb_py := hb_py.mono hx116.1
              have hb_pz := hb_pz.mono hx116.1
              have hOfs13a0 := hx116.2 _ _ hOfs13a0 (jnot_of rfl)
              have hKfs13a0 := hKfs13a0.mono hx116.1
              have hAF17n67 := hx116.2 _ _ hAF17n67 (jnot_of rfl)
              have ha_GA := hx116.2 _ _ ha_GA (jnot_of rfl)
              cases hr116
              refine J_aload_n dX7_turnBack_119 rfl ?_
              refine J_get jf_X7_109 dX7_turnBack_120 hOfs13a0 hFv13_0 ?_
              exact J_ret (r := some (.int _)) dX7_turnBack_123 ⟨rfl, _, rfl, rfl⟩ (⟨⟨hW, he, ⟨_, rfl, (j_rng _).1, (j_rng _).2, (by (try simp only [hzf13_0.eq, true_and, and_true]) <;> omega)⟩⟩, (hX116_0.imp (fun M2 q => ⟨q.1, by rw [q.2.1, hzf13_0.eq], q.2.2⟩)), (hX116_1.imp (fun S2 q => ⟨q.1, fun j hj => by rw [q.2.1 j (by rw [hzf13_0.eq]; omega)]; exact hra j (by omega), q.2.2⟩)), hkp⟩)
            · refine J_aload_n dX7_turnBack_75 rfl ?_
              refine J_get jf_X7_19 dX7_turnBack_76 hOfs13a0 hFfs13a0_4 ?_
              refine J_iload_n dX7_turnBack_79 rfl ?_
              refine J_aload_n dX7_turnBack_80 rfl ?_
              refine J_get jf_X7_7 dX7_turnBack_81 hOfs13a0 hFfs13a0_1 ?_
              refine J_iload_n dX7_turnBack_84 rfl ?_
              refine Jz_iald (r := (0, 3)) jEq.rf dX7_turnBack_85 ha_GA rfl hv_GA (by omega) (by omega) (fun y85 hf85 hl85 hh85 => ?_)
              dsimp only at hl85 hh85
              clear hl85 hh85
              have he85 : jEq y85.toInt (y22.toInt) := by rw [← hf85, hf22]; exact jEq.rf
              refine J_aload_n dX7_turnBack_86 rfl ?_
              refine J_get jf_X7_16 dX7_turnBack_87 hOfs13a0 hFfs13a0_3 ?_
              refine Jz_bipush 60 dX7_turnBack_90 (by decide) (fun y90 he90 => ?_)
              refine J_iload_n dX7_turnBack_92 rfl ?_
              refine Jz_imul he90 jEq.rf dX7_turnBack_93 (by omega) (by omega) (fun y93 he93 => ?_)
              refine J_aload_n dX7_turnBack_94 rfl ?_
              refine J_get jf_X7_109 dX7_turnBack_95 hOfs13a0 hFv13_0 ?_
              refine Jz_iadd he93 hzf13_0 dX7_turnBack_98 (by omega) (by omega) (fun y98 he98 => ?_)
              refine Jz_iconst 1 dX7_turnBack_99 (by decide) (fun y99 he99 => ?_)
              refine Jz_isub he98 he99 dX7_turnBack_100 (by omega) (by omega) (fun y100 he100 => ?_)
              refine J_iload_n dX7_turnBack_101 rfl ?_
              refine Jz_isub he100 jEq.rf dX7_turnBack_102 (by omega) (by omega) (fun y102 he102 => ?_)
              refine Jz_iald (r := ((-2147483648), 2147483647)) he102 dX7_turnBack_103 ha_SP rfl hv_SP (by omega) (by omega) (fun y103 hf103 hl103 hh103 => ?_)
              dsimp only at hl103 hh103
              clear hl103 hh103
              have hq103 : (SP (60 * x1.toInt.toNat + ((MN x1.toInt.toNat).toInt.toNat - 1 - i2n67.toInt.toNat))).toInt = y103.toInt := by rw [← hf103]; exact congrArg (fun z => (SP z).toInt) (by omega)
              have hpd := hp3 ((MN x1.toInt.toNat).toInt.toNat - 1 - i2n67.toInt.toNat) (by omega)
              rw [hq22, hq103] at hpd
              refine J_callS2 moX7_opposite jw_ml_X7_149 jw_st_X7_opposite dX7_turnBack_104 (w_X7_opposite_z (d - 1) _ y85 y103 (by omega)   (by (try simp only [he85.eq, true_and, and_true]) <;> omega) (by (try simp only [he85.eq, true_and, and_true]) <;> omega) (by omega) (by (try simp only [he85.eq, true_and, and_true]) <;> omega)) (by omega) (Nat.zero_le _) (Nat.zero_le _) (Nat.le_of_ble_eq_true rfl) (fun r104 V104 h104 => ?_)
              obtain ⟨⟨y104, rfl, hl104, hh104, hP104_0⟩, hE104⟩ := h104
              have hE104 := hE104.symm
              subst hE104
              clear hl104 hh104
              try simp only [he85.eq] at hP104_0
              have hz104 : jEq y104.toInt (jopp (y22.toInt) (y103.toInt)) := hP104_0
              clear hP104_0
              have hob := jopp_b (g := y22.toInt) (d := y103.toInt) (by omega) (by omega)
              have hdc := jdir_cases y22.toInt
              refine Jz_iast (r := ((-2147483648), 2147483647)) jEq.rf hz104 hW id dX7_turnBack_107 hAF17n67 rfl rfl (by omega) (by omega) (by omega) (by omega) (fun V107 G107 hW hx107 hA107 hp107 ho107 => ?_)
              obtain ⟨hN107, hv107⟩ := WT_rngI (r := ((-2147483648), 2147483647)) hW id rfl hA107
              clear hN107
              have he := he.trans (hx107.sub (jsub_of rfl))
              have hkp := hkp.trans (jkc.of hx107 (jnot_of rfl))
              have ha0 := ha0.mono hx107.1
              have hb_gr := hb_gr.mono hx107.1
              have hb_mn := hb_mn.mono hx107.1
              have hb_sp := hb_sp.mono hx107.1
              have hb_rw := hb_rw.mono hx107.1
              have hb_px := hb_px.mono hx107.1
              have hb_py := hb_py.mono hx107.1
              have hb_pz := hb_pz.mono hx107.1
              have hOfs13a0 := hx107.2 _ _ hOfs13a0 (jnot_of rfl)
              have hKfs13a0 := hKfs13a0.mono hx107.1
              have ha_GA := hx107.2 _ _ ha_GA (jnot_of rfl)
              have ha_MN := hx107.2 _ _ ha_MN (jnot_of rfl)
              have ha_SP := hx107.2 _ _ ha_SP (jnot_of rfl)
              refine Jz_iinc 1 dX7_turnBack_108 rfl rfl (by decide) jEq.rf (by decide) (by omega) (by omega) (fun y108 he108 => ?_)
              refine J_goto (tgt := 67) dX7_turnBack_111 (by decide) ?_
              refine J.mask [true, true, true] ?_
              exact ih67 _ y108 G107 hW he ha0 hb_gr hb_mn hb_sp hb_rw hb_px hb_py hb_pz hkp hOfs13a0 hKfs13a0 hA107 ha_GA ha_MN ha_SP (by (try simp only [he108.eq, true_and, and_true]) <;> omega) (fun j hj => by rw [he108.eq] at hj; by_cases h9 : (j : Int) = i2n67.toInt; (have e : j = i2n67.toInt.toNat := by omega); subst e; rw [hp107, hz104.eq]; unfold jTb; (show jopp _ _ = jopp _ (SP (60 * x1.toInt.toNat + ((MN x1.toInt.toNat).toInt.toNat - 1 - i2n67.toInt.toNat))).toInt); rw [hq22, hq103]; rw [ho107 j (by omega)]; exact hra j (by omega)) (by (try simp only [he108.eq, true_and, and_true]) <;> omega)
        refine J.mask [true, true, true] ?_
        exact L67 _ _ y65 R2 hW he ha0 hb_gr hb_mn hb_sp hb_rw hb_px hb_py hb_pz hkp hOfs13a0 hKfs13a0 hR2 ha_GA ha_MN ha_SP (by (try simp only [he65.eq, true_and, and_true]) <;> omega) (fun j hj => by rw [he65.eq] at hj; omega) (Nat.lt_succ_self _)
      · exact False.elim (by have q := hp2 (by omega); omega)
  · exact False.elim (by omega)
set_option maxRecDepth 100000 in
set_option maxHeartbeats 8000000 in
theorem w_X7_walk_bad {tS : jTS} (d : Nat) (V0 : jH) (a0 : Nat) (x1 : Int32) (v0 : Int32) (hd : 1 ≤ d) (hW : WT V0) (ha0 : jis V0 (.inr 5) a0) (hf_v0 : jfI V0 a0 5 0 v0) (hp0 : ¬ (0 ≤ x1.toInt ∧ x1.toInt ≤ 3)) : jTot tS mX7_walk d [.ref a0, .int x1] V0 0 0 (fun r V => (fun r _ => ∃ y : Int32, r = some (.int y) ∧ ((-2147483648) ≤ y.toInt) ∧ (y.toInt ≤ 2147483647) ∧ (y.toInt = -2)) r V ∧ V = V0) := by
  refine jTot.of_J [some (.ref a0), some (.int x1)] moX7_walk (Nat.le_of_ble_eq_true rfl) rfl ?_
  have hrx1 := j_rng x1
  have he : jeff [] V0 V0 := jeff.refl _ _
  obtain ⟨fs_a0, hO_a0, hK_a0⟩ := WT_obj hW id ha0
  have hF_v0 := hf_v0.get hO_a0
  have hrv0 : 0 ≤ v0.toInt ∧ v0.toInt ≤ 16 := jok_rngI hK_a0 rfl hF_v0
  refine J_iload_n dX7_walk_0 rfl ?_
  refine Jz_iconst 0 dX7_walk_1 (by decide) (fun y1 he1 => ?_)
  refine Jz_iconst 3 dX7_walk_2 (by decide) (fun y2 he2 => ?_)
  refine J_callS3 moX7_in jw_ml_X7_105 jw_st_X7_in dX7_walk_3 (w_X7_in (d - 1) _ x1 y1 y2 (by omega)   ) (by omega) (Nat.zero_le _) (Nat.zero_le _) (Nat.le_of_ble_eq_true rfl) (fun r3 V3 h3 => ?_)
  obtain ⟨⟨y3, rfl, hl3, hh3, hI3_0, hI3_1⟩, hE3⟩ := h3
  have hE3 := hE3.symm
  subst hE3
  refine Jz_if_ne (tgt := 12) jEq.rf dX7_walk_6 (by decide) (fun c6 => ?_) (fun c6 => ?_)
  · have q6_0 := hI3_0.of (by omega)
    try simp only [he1.eq, he2.eq] at q6_0
    exact False.elim (by omega)
  · have q6_1 := hI3_1.of (by omega)
    try simp only [he1.eq, he2.eq] at q6_1
    refine Jz_bipush (-2) dX7_walk_9 (by decide) (fun y9 he9 => ?_)
    exact J_ret (r := some (.int _)) dX7_walk_11 ⟨rfl, _, rfl, rfl⟩ (⟨⟨_, rfl, (j_rng _).1, (j_rng _).2, (by (try simp only [he9.eq, true_and, and_true]) <;> omega)⟩, rfl⟩)
set_option maxRecDepth 100000 in
set_option maxHeartbeats 8000000 in
theorem w_X7_walk_full {tS : jTS} (d : Nat) (V0 : jH) (a0 : Nat) (x1 : Int32) (v0 : Int32) (hd : 1 ≤ d) (hW : WT V0) (ha0 : jis V0 (.inr 5) a0) (hf_v0 : jfI V0 a0 5 0 v0) (hp0 : 0 ≤ x1.toInt) (hp1 : x1.toInt ≤ 3) (hp2 : v0.toInt = 16) : jTot tS mX7_walk d [.ref a0, .int x1] V0 0 0 (fun r V => (fun r _ => ∃ y : Int32, r = some (.int y) ∧ ((-2147483648) ≤ y.toInt) ∧ (y.toInt ≤ 2147483647) ∧ (y.toInt = -4)) r V ∧ V = V0) := by
  refine jTot.of_J [some (.ref a0), some (.int x1)] moX7_walk (Nat.le_of_ble_eq_true rfl) rfl ?_
  have hrx1 := j_rng x1
  have he : jeff [] V0 V0 := jeff.refl _ _
  obtain ⟨fs_a0, hO_a0, hK_a0⟩ := WT_obj hW id ha0
  have hF_v0 := hf_v0.get hO_a0
  have hrv0 : 0 ≤ v0.toInt ∧ v0.toInt ≤ 16 := jok_rngI hK_a0 rfl hF_v0
  refine J_iload_n dX7_walk_0 rfl ?_
  refine Jz_iconst 0 dX7_walk_1 (by decide) (fun y1 he1 => ?_)
  refine Jz_iconst 3 dX7_walk_2 (by decide) (fun y2 he2 => ?_)
  refine J_callS3 moX7_in jw_ml_X7_105 jw_st_X7_in dX7_walk_3 (w_X7_in (d - 1) _ x1 y1 y2 (by omega)   ) (by omega) (Nat.zero_le _) (Nat.zero_le _) (Nat.le_of_ble_eq_true rfl) (fun r3 V3 h3 => ?_)
  obtain ⟨⟨y3, rfl, hl3, hh3, hI3_0, hI3_1⟩, hE3⟩ := h3
  have hE3 := hE3.symm
  subst hE3
  refine Jz_if_ne (tgt := 12) jEq.rf dX7_walk_6 (by decide) (fun c6 => ?_) (fun c6 => ?_)
  · have q6_0 := hI3_0.of (by omega)
    try simp only [he1.eq, he2.eq] at q6_0
    refine J_aload_n dX7_walk_12 rfl ?_
    refine J_get jf_X7_102 dX7_walk_13 hO_a0 hF_v0 ?_
    refine Jz_bipush 16 dX7_walk_16 (by decide) (fun y16 he16 => ?_)
    refine Jz_icmp_ne (tgt := 24) jEq.rf he16 dX7_walk_18 (by decide) (fun c18 => ?_) (fun c18 => ?_)
    · exact False.elim (by omega)
    · refine Jz_bipush (-4) dX7_walk_21 (by decide) (fun y21 he21 => ?_)
      exact J_ret (r := some (.int _)) dX7_walk_23 ⟨rfl, _, rfl, rfl⟩ (⟨⟨_, rfl, (j_rng _).1, (j_rng _).2, (by (try simp only [he21.eq, true_and, and_true]) <;> omega)⟩, rfl⟩)
  · have q6_1 := hI3_1.of (by omega)
    try simp only [he1.eq, he2.eq] at q6_1
    exact False.elim (by omega)
set_option maxRecDepth 100000 in
set_option maxHeartbeats 8000000 in
theorem w_X7_walk_ok {tS : jTS} (d : Nat) (V0 : jH) (a0 : Nat) (x1 : Int32) (v0 : Int32) (gr : Nat) (mn : Nat) (GA : Nat → Int32) (MN : Nat → Int32) (hd : 1 ≤ d) (hW : WT V0) (ha0 : jis V0 (.inr 5) a0) (hf_v0 : jfI V0 a0 5 0 v0) (hr_gr : jfR V0 a0 5 1 gr) (hr_mn : jfR V0 a0 5 2 mn) (ha_GA : V0 gr = some (.inl (14, 16, .inl GA))) (ha_MN : V0 mn = some (.inl (15, 16, .inl MN))) (hp0 : 0 ≤ x1.toInt) (hp1 : x1.toInt ≤ 3) (hp2 : v0.toInt < 16) : jTot tS mX7_walk d [.ref a0, .int x1] V0 0 0 (fun r V => (jPost [.inr 5, .inl 14, .inl 15] V0 (fun r _ => ∃ y : Int32, r = some (.int y) ∧ ((-2147483648) ≤ y.toInt) ∧ (y.toInt ≤ 2147483647) ∧ (y.toInt = v0.toInt))) r V ∧ (∃ G2 : Nat → Int32, V gr = some (.inl (14, 16, .inl G2)) ∧ G2 v0.toInt.toNat = x1 ∧ ∀ j : Nat, j ≠ v0.toInt.toNat → G2 j = GA j) ∧ (∃ M2 : Nat → Int32, V mn = some (.inl (15, 16, .inl M2)) ∧ (M2 v0.toInt.toNat).toInt = 0 ∧ ∀ j : Nat, j ≠ v0.toInt.toNat → M2 j = MN j) ∧ jkc 5 [23, 24] V0 V ∧ (∃ w0 : Int32, jfI V a0 5 0 w0 ∧ (w0.toInt = v0.toInt + 1))) := by
  refine jTot.of_J [some (.ref a0), some (.int x1)] moX7_walk (Nat.le_of_ble_eq_true rfl) rfl ?_
  have hrx1 := j_rng x1
  have he : jeff [.inr 5, .inl 14, .inl 15] V0 V0 := jeff.refl _ _
  have hkp : jkc 5 [23, 24] V0 V0 := jkc.rf
  obtain ⟨fs_a0, hO_a0, hK_a0⟩ := WT_obj hW id ha0
  have hF_v0 := hf_v0.get hO_a0
  have hrv0 : 0 ≤ v0.toInt ∧ v0.toInt ≤ 16 := jok_rngI hK_a0 rfl hF_v0
  have hF_gr := hr_gr.get hO_a0
  obtain ⟨w_gr, hFq_gr, b_gr, hbq_gr, hb_gr⟩ := hK_a0.2 1 (.inr (some (.inl 14))) rfl
  cases hF_gr.symm.trans (hFq_gr.trans (congrArg some hbq_gr))
  have hF_mn := hr_mn.get hO_a0
  obtain ⟨w_mn, hFq_mn, b_mn, hbq_mn, hb_mn⟩ := hK_a0.2 2 (.inr (some (.inl 15))) rfl
  cases hF_mn.symm.trans (hFq_mn.trans (congrArg some hbq_mn))
  obtain ⟨hN_GA, hv_GA⟩ := WT_rngI (r := (0, 3)) hW id rfl ha_GA
  clear hN_GA
  obtain ⟨hN_MN, hv_MN⟩ := WT_rngI (r := (0, 60)) hW id rfl ha_MN
  clear hN_MN
  refine J_iload_n dX7_walk_0 rfl ?_
  refine Jz_iconst 0 dX7_walk_1 (by decide) (fun y1 he1 => ?_)
  refine Jz_iconst 3 dX7_walk_2 (by decide) (fun y2 he2 => ?_)
  refine J_callS3 moX7_in jw_ml_X7_105 jw_st_X7_in dX7_walk_3 (w_X7_in (d - 1) _ x1 y1 y2 (by omega)   ) (by omega) (Nat.zero_le _) (Nat.zero_le _) (Nat.le_of_ble_eq_true rfl) (fun r3 V3 h3 => ?_)
  obtain ⟨⟨y3, rfl, hl3, hh3, hI3_0, hI3_1⟩, hE3⟩ := h3
  have hE3 := hE3.symm
  subst hE3
  refine Jz_if_ne (tgt := 12) jEq.rf dX7_walk_6 (by decide) (fun c6 => ?_) (fun c6 => ?_)
  · have q6_0 := hI3_0.of (by omega)
    try simp only [he1.eq, he2.eq] at q6_0
    refine J_aload_n dX7_walk_12 rfl ?_
    refine J_get jf_X7_102 dX7_walk_13 hO_a0 hF_v0 ?_
    refine Jz_bipush 16 dX7_walk_16 (by decide) (fun y16 he16 => ?_)
    refine Jz_icmp_ne (tgt := 24) jEq.rf he16 dX7_walk_18 (by decide) (fun c18 => ?_) (fun c18 => ?_)
    · refine J_aload_n dX7_walk_24 rfl ?_
      refine J_get jf_X7_7 dX7_walk_25 hO_a0 hF_gr ?_
      refine J_aload_n dX7_walk_28 rfl ?_
      refine J_get jf_X7_102 dX7_walk_29 hO_a0 hF_v0 ?_
      refine J_iload_n dX7_walk_32 rfl ?_
      refine Jz_iast (r := (0, 3)) jEq.rf jEq.rf hW id dX7_walk_33 ha_GA rfl rfl (by omega) (by omega) (by omega) (by omega) (fun V33 G33 hW hx33 hA33 hp33 ho33 => ?_)
      obtain ⟨hN33, hv33⟩ := WT_rngI (r := (0, 3)) hW id rfl hA33
      clear hN33
      have he := he.trans (hx33.sub (jsub_of rfl))
      have hkp := hkp.trans (jkc.of hx33 (jnot_of rfl))
      have ha0 := ha0.mono hx33.1
      have hb_gr := hb_gr.mono hx33.1
      have hb_mn := hb_mn.mono hx33.1
      have hO_a0 := hx33.2 _ _ hO_a0 (jnot_of rfl)
      have hK_a0 := hK_a0.mono hx33.1
      have ha_MN := hx33.2 _ _ ha_MN (jnot_of rfl)
      refine J_aload_n dX7_walk_34 rfl ?_
      refine J_get jf_X7_13 dX7_walk_35 hO_a0 hF_mn ?_
      refine J_aload_n dX7_walk_38 rfl ?_
      refine J_get jf_X7_102 dX7_walk_39 hO_a0 hF_v0 ?_
      refine Jz_iconst 0 dX7_walk_42 (by decide) (fun y42 he42 => ?_)
      refine Jz_iast (r := (0, 60)) jEq.rf he42 hW id dX7_walk_43 ha_MN rfl rfl (by omega) (by omega) (by omega) (by omega) (fun V43 G43 hW hx43 hA43 hp43 ho43 => ?_)
      obtain ⟨hN43, hv43⟩ := WT_rngI (r := (0, 60)) hW id rfl hA43
      clear hN43
      have he := he.trans (hx43.sub (jsub_of rfl))
      have hkp := hkp.trans (jkc.of hx43 (jnot_of rfl))
      have ha0 := ha0.mono hx43.1
      have hb_gr := hb_gr.mono hx43.1
      have hb_mn := hb_mn.mono hx43.1
      have hO_a0 := hx43.2 _ _ hO_a0 (jnot_of rfl)
      have hK_a0 := hK_a0.mono hx43.1
      have hA33 := hx43.2 _ _ hA33 (jnot_of rfl)
      refine J_aload_n dX7_walk_44 rfl ?_
      refine J_dup dX7_walk_45 rfl ?_
      refine J_get jf_X7_102 dX7_walk_46 hO_a0 hF_v0 ?_
      refine Jz_iconst 1 dX7_walk_49 (by decide) (fun y49 he49 => ?_)
      refine Jz_iadd jEq.rf he49 dX7_walk_50 (by omega) (by omega) (fun y50 he50 => ?_)
      refine Jz_putI hO_a0 hW id rfl jf_X7_102 jt_X7_0 he50 dX7_walk_51 (by omega) (by omega) (fun _ _ => ⟨rfl, rfl⟩) (fun V51 fs51 hW hx51 hO51 hS51 hT51 hB51 => ?_)
      have hK51 : jokO _ (jFs 5) fs51 := hW _ _ id hO51
      have hF51_1 := (hT51 1 (by decide)).trans hF_gr
      have hF51_2 := (hT51 2 (by decide)).trans hF_mn
      have he := he.trans (hx51.sub (jsub_of rfl))
      have hkp := hkp.trans (jkc.put hO_a0 hO51 hT51 hB51 (by decide))
      have ha0 := ha0.mono hx51.1
      have hb_gr := hb_gr.mono hx51.1
      have hb_mn := hb_mn.mono hx51.1
      have hA33 := hx51.2 _ _ hA33 (jnot_of rfl)
      have hA43 := hx51.2 _ _ hA43 (jnot_of rfl)
      refine J_aload_n dX7_walk_54 rfl ?_
      refine J_get jf_X7_102 dX7_walk_55 hO51 hS51 ?_
      refine Jz_iconst 1 dX7_walk_58 (by decide) (fun y58 he58 => ?_)
      refine Jz_isub he50 he58 dX7_walk_59 (by omega) (by omega) (fun y59 he59 => ?_)
      exact J_ret (r := some (.int _)) dX7_walk_60 ⟨rfl, _, rfl, rfl⟩ (⟨⟨hW, he, ⟨_, rfl, (j_rng _).1, (j_rng _).2, (by (try simp only [he59.eq, true_and, and_true]) <;> omega)⟩⟩, ⟨G33, hA33, hp33, ho33⟩, ⟨G43, hA43, (by rw [hp43, he42.eq]), ho43⟩, hkp, ⟨_, ⟨_, hO51, hS51⟩, (by (try simp only [he50.eq, true_and, and_true]) <;> omega)⟩⟩)
    · exact False.elim (by omega)
  · have q6_1 := hI3_1.of (by omega)
    try simp only [he1.eq, he2.eq] at q6_1
    exact False.elim (by omega)
set_option maxRecDepth 100000 in
set_option maxHeartbeats 8000000 in
theorem w_X7_place_bad {tS : jTS} (d : Nat) (V0 : jH) (a0 : Nat) (x1 : Int32) (x2 : Int32) (x3 : Int32) (v0 : Int32) (gr : Nat) (mn : Nat) (sp : Nat) (rw : Nat) (px : Nat) (py : Nat) (pz : Nat) (GA : Nat → Int32) (MN : Nat → Int32) (SP : Nat → Int32) (RW : Nat → Int32) (PX : Nat → Int32) (PY : Nat → Int32) (PZ : Nat → Int32) (hd : 2 ≤ d) (hW : WT V0) (ha0 : jis V0 (.inr 5) a0) (hf_v0 : jfI V0 a0 5 0 v0) (hr_gr : jfR V0 a0 5 1 gr) (hr_mn : jfR V0 a0 5 2 mn) (hr_sp : jfR V0 a0 5 3 sp) (hr_rw : jfR V0 a0 5 4 rw) (hr_px : jfR V0 a0 5 6 px) (hr_py : jfR V0 a0 5 7 py) (hr_pz : jfR V0 a0 5 8 pz) (ha_GA : V0 gr = some (.inl (14, 16, .inl GA))) (ha_MN : V0 mn = some (.inl (15, 16, .inl MN))) (ha_SP : V0 sp = some (.inl (16, 960, .inl SP))) (ha_RW : V0 rw = some (.inl (17, 120, .inl RW))) (ha_PX : V0 px = some (.inl (18, 121, .inl PX))) (ha_PY : V0 py = some (.inl (19, 121, .inl PY))) (ha_PZ : V0 pz = some (.inl (20, 121, .inl PZ))) (hp0 : ¬ (0 ≤ x1.toInt ∧ x1.toInt < v0.toInt ∧ 0 ≤ x2.toInt ∧ x2.toInt ≤ (MN x1.toInt.toNat).toInt ∧ 0 ≤ x3.toInt ∧ x3.toInt ≤ 2)) : jTot tS mX7_place d [.ref a0, .int x1, .int x2, .int x3] V0 0 0 (fun r V => (fun r _ => ∃ y : Int32, r = some (.int y) ∧ ((-2147483648) ≤ y.toInt) ∧ (y.toInt ≤ 2147483647) ∧ (y.toInt = -1000)) r V ∧ V = V0) := by
  refine jTot.of_J [some (.ref a0), some (.int x1), some (.int x2), some (.int x3)] moX7_place (Nat.le_of_ble_eq_true rfl) rfl ?_
  have hrx1 := j_rng x1
  have hrx2 := j_rng x2
  have hrx3 := j_rng x3
  have he : jeff [] V0 V0 := jeff.refl _ _
  obtain ⟨fs_a0, hO_a0, hK_a0⟩ := WT_obj hW id ha0
  have hF_v0 := hf_v0.get hO_a0
  have hrv0 : 0 ≤ v0.toInt ∧ v0.toInt ≤ 16 := jok_rngI hK_a0 rfl hF_v0
  have hF_gr := hr_gr.get hO_a0
  obtain ⟨w_gr, hFq_gr, b_gr, hbq_gr, hb_gr⟩ := hK_a0.2 1 (.inr (some (.inl 14))) rfl
  cases hF_gr.symm.trans (hFq_gr.trans (congrArg some hbq_gr))
  have hF_mn := hr_mn.get hO_a0
  obtain ⟨w_mn, hFq_mn, b_mn, hbq_mn, hb_mn⟩ := hK_a0.2 2 (.inr (some (.inl 15))) rfl
  cases hF_mn.symm.trans (hFq_mn.trans (congrArg some hbq_mn))
  have hF_sp := hr_sp.get hO_a0
  obtain ⟨w_sp, hFq_sp, b_sp, hbq_sp, hb_sp⟩ := hK_a0.2 3 (.inr (some (.inl 16))) rfl
  cases hF_sp.symm.trans (hFq_sp.trans (congrArg some hbq_sp))
  have hF_rw := hr_rw.get hO_a0
  obtain ⟨w_rw, hFq_rw, b_rw, hbq_rw, hb_rw⟩ := hK_a0.2 4 (.inr (some (.inl 17))) rfl
  cases hF_rw.symm.trans (hFq_rw.trans (congrArg some hbq_rw))
  have hF_px := hr_px.get hO_a0
  obtain ⟨w_px, hFq_px, b_px, hbq_px, hb_px⟩ := hK_a0.2 6 (.inr (some (.inl 18))) rfl
  cases hF_px.symm.trans (hFq_px.trans (congrArg some hbq_px))
  have hF_py := hr_py.get hO_a0
  obtain ⟨w_py, hFq_py, b_py, hbq_py, hb_py⟩ := hK_a0.2 7 (.inr (some (.inl 19))) rfl
  cases hF_py.symm.trans (hFq_py.trans (congrArg some hbq_py))
  have hF_pz := hr_pz.get hO_a0
  obtain ⟨w_pz, hFq_pz, b_pz, hbq_pz, hb_pz⟩ := hK_a0.2 8 (.inr (some (.inl 20))) rfl
  cases hF_pz.symm.trans (hFq_pz.trans (congrArg some hbq_pz))
  obtain ⟨hN_GA, hv_GA⟩ := WT_rngI (r := (0, 3)) hW id rfl ha_GA
  clear hN_GA
  obtain ⟨hN_MN, hv_MN⟩ := WT_rngI (r := (0, 60)) hW id rfl ha_MN
  clear hN_MN
  obtain ⟨hN_SP, hv_SP⟩ := WT_rngI (r := ((-2147483648), 2147483647)) hW id rfl ha_SP
  clear hN_SP
  obtain ⟨hN_RW, hv_RW⟩ := WT_rngI (r := ((-2147483648), 2147483647)) hW id rfl ha_RW
  clear hN_RW
  obtain ⟨hN_PX, hv_PX⟩ := WT_rngI (r := ((-2147483648), 2147483647)) hW id rfl ha_PX
  clear hN_PX
  obtain ⟨hN_PY, hv_PY⟩ := WT_rngI (r := ((-2147483648), 2147483647)) hW id rfl ha_PY
  clear hN_PY
  obtain ⟨hN_PZ, hv_PZ⟩ := WT_rngI (r := ((-2147483648), 2147483647)) hW id rfl ha_PZ
  clear hN_PZ
  refine J_aload_n dX7_place_0 rfl ?_
  refine J_iload_n dX7_place_1 rfl ?_
  refine Jw_callV1 (q9 := (RX7, TX7, 34)) moX7_isWalk jw_ml_X7_130 jw_im_X7_isWalk jw_se_X7_isWalk ha0 rfl rfl dX7_place_2 (w_X7_isWalk_z (d - 1) _ a0 x1 v0 (by omega) hW  ha0 ⟨_, hO_a0, hF_v0⟩) (by omega) (Nat.zero_le _) (Nat.zero_le _) (Nat.le_of_ble_eq_true rfl) (fun r2 V2 h2 => ?_)
  obtain ⟨⟨y2, rfl, hl2, hh2, hP2_0⟩, hE2⟩ := h2
  have hE2 := hE2.symm
  subst hE2
  refine Jz_if_eq (tgt := 31) jEq.rf dX7_place_5 (by decide) (fun c5 => ?_) (fun c5 => ?_)
  · refine Jz_sipush (-1000) dX7_place_31 (by decide) (fun y31 he31 => ?_)
    exact J_ret (r := some (.int _)) dX7_place_34 ⟨rfl, _, rfl, rfl⟩ (⟨⟨_, rfl, (j_rng _).1, (j_rng _).2, (by (try simp only [he31.eq, true_and, and_true]) <;> omega)⟩, rfl⟩)
  · refine J_iload_n dX7_place_8 rfl ?_
    refine Jz_iconst 0 dX7_place_9 (by decide) (fun y9 he9 => ?_)
    refine J_aload_n dX7_place_10 rfl ?_
    refine J_get jf_X7_13 dX7_place_11 hO_a0 hF_mn ?_
    refine J_iload_n dX7_place_14 rfl ?_
    refine Jz_iald (r := (0, 60)) jEq.rf dX7_place_15 ha_MN rfl hv_MN (by omega) (by omega) (fun y15 hf15 hl15 hh15 => ?_)
    dsimp only at hl15 hh15
    have hq15 : (MN x1.toInt.toNat).toInt = y15.toInt := by rw [hf15]
    refine J_callS3 moX7_in jw_ml_X7_105 jw_st_X7_in dX7_place_16 (w_X7_in (d - 1) _ x2 y9 y15 (by omega)   ) (by omega) (Nat.zero_le _) (Nat.zero_le _) (Nat.le_of_ble_eq_true rfl) (fun r16 V16 h16 => ?_)
    obtain ⟨⟨y16, rfl, hl16, hh16, hI16_0, hI16_1⟩, hE16⟩ := h16
    have hE16 := hE16.symm
    subst hE16
    refine Jz_if_eq (tgt := 31) jEq.rf dX7_place_19 (by decide) (fun c19 => ?_) (fun c19 => ?_)
    · have q19_1 := hI16_1.of (by omega)
      try simp only [he9.eq] at q19_1
      refine Jz_sipush (-1000) dX7_place_31 (by decide) (fun y31 he31 => ?_)
      exact J_ret (r := some (.int _)) dX7_place_34 ⟨rfl, _, rfl, rfl⟩ (⟨⟨_, rfl, (j_rng _).1, (j_rng _).2, (by (try simp only [he31.eq, true_and, and_true]) <;> omega)⟩, rfl⟩)
    · have q19_0 := hI16_0.of (by omega)
      try simp only [he9.eq] at q19_0
      refine J_iload_n dX7_place_22 rfl ?_
      refine Jz_iconst 0 dX7_place_23 (by decide) (fun y23 he23 => ?_)
      refine Jz_iconst 2 dX7_place_24 (by decide) (fun y24 he24 => ?_)
      refine J_callS3 moX7_in jw_ml_X7_105 jw_st_X7_in dX7_place_25 (w_X7_in (d - 1) _ x3 y23 y24 (by omega)   ) (by omega) (Nat.zero_le _) (Nat.zero_le _) (Nat.le_of_ble_eq_true rfl) (fun r25 V25 h25 => ?_)
      obtain ⟨⟨y25, rfl, hl25, hh25, hI25_0, hI25_1⟩, hE25⟩ := h25
      have hE25 := hE25.symm
      subst hE25
      refine Jz_if_ne (tgt := 35) jEq.rf dX7_place_28 (by decide) (fun c28 => ?_) (fun c28 => ?_)
      · have q28_0 := hI25_0.of (by omega)
        try simp only [he23.eq, he24.eq] at q28_0
        exact False.elim (by omega)
      · have q28_1 := hI25_1.of (by omega)
        try simp only [he23.eq, he24.eq] at q28_1
        refine Jz_sipush (-1000) dX7_place_31 (by decide) (fun y31 he31 => ?_)
        exact J_ret (r := some (.int _)) dX7_place_34 ⟨rfl, _, rfl, rfl⟩ (⟨⟨_, rfl, (j_rng _).1, (j_rng _).2, (by (try simp only [he31.eq, true_and, and_true]) <;> omega)⟩, rfl⟩)
set_option maxRecDepth 100000 in
set_option maxHeartbeats 8000000 in
theorem w_X7_place_ok {tS : jTS} (d : Nat) (V0 : jH) (a0 : Nat) (x1 : Int32) (x2 : Int32) (x3 : Int32) (v0 : Int32) (gr : Nat) (mn : Nat) (sp : Nat) (rw : Nat) (px : Nat) (py : Nat) (pz : Nat) (GA : Nat → Int32) (MN : Nat → Int32) (SP : Nat → Int32) (RW : Nat → Int32) (PX : Nat → Int32) (PY : Nat → Int32) (PZ : Nat → Int32) (hd : 2 ≤ d) (hW : WT V0) (ha0 : jis V0 (.inr 5) a0) (hf_v0 : jfI V0 a0 5 0 v0) (hr_gr : jfR V0 a0 5 1 gr) (hr_mn : jfR V0 a0 5 2 mn) (hr_sp : jfR V0 a0 5 3 sp) (hr_rw : jfR V0 a0 5 4 rw) (hr_px : jfR V0 a0 5 6 px) (hr_py : jfR V0 a0 5 7 py) (hr_pz : jfR V0 a0 5 8 pz) (ha_GA : V0 gr = some (.inl (14, 16, .inl GA))) (ha_MN : V0 mn = some (.inl (15, 16, .inl MN))) (ha_SP : V0 sp = some (.inl (16, 960, .inl SP))) (ha_RW : V0 rw = some (.inl (17, 120, .inl RW))) (ha_PX : V0 px = some (.inl (18, 121, .inl PX))) (ha_PY : V0 py = some (.inl (19, 121, .inl PY))) (ha_PZ : V0 pz = some (.inl (20, 121, .inl PZ))) (hp0 : 0 ≤ x1.toInt) (hp1 : x1.toInt < v0.toInt) (hp2 : 0 ≤ x2.toInt) (hp3 : x2.toInt ≤ (MN x1.toInt.toNat).toInt) (hp4 : 0 ≤ x3.toInt) (hp5 : x3.toInt ≤ 2) : jTot tS mX7_place d [.ref a0, .int x1, .int x2, .int x3] V0 0 0 (fun r V => (jPost [.inr 5, .inl 17, .inl 18, .inl 19, .inl 20] V0 (fun r _ => ∃ y : Int32, r = some (.int y) ∧ ((-2147483648) ≤ y.toInt) ∧ (y.toInt ≤ 2147483647) ∧ ((x3.toInt = 0 ∧ y.toInt = (jPt (GA x1.toInt.toNat).toInt (fun q => (SP (60 * x1.toInt.toNat + q)).toInt) x2.toInt.toNat).1) ∨ (x3.toInt = 1 ∧ y.toInt = (jPt (GA x1.toInt.toNat).toInt (fun q => (SP (60 * x1.toInt.toNat + q)).toInt) x2.toInt.toNat).2.1) ∨ (x3.toInt = 2 ∧ y.toInt = (jPt (GA x1.toInt.toNat).toInt (fun q => (SP (60 * x1.toInt.toNat + q)).toInt) x2.toInt.toNat).2.2)))) r V ∧ jkc 5 [0, 23, 24] V0 V) := by
  refine jTot.of_J [some (.ref a0), some (.int x1), some (.int x2), some (.int x3)] moX7_place (Nat.le_of_ble_eq_true rfl) rfl ?_
  have hrx1 := j_rng x1
  have hrx2 := j_rng x2
  have hrx3 := j_rng x3
  have he : jeff [.inr 5, .inl 17, .inl 18, .inl 19, .inl 20] V0 V0 := jeff.refl _ _
  have hkp : jkc 5 [0, 23, 24] V0 V0 := jkc.rf
  obtain ⟨fs_a0, hO_a0, hK_a0⟩ := WT_obj hW id ha0
  have hF_v0 := hf_v0.get hO_a0
  have hrv0 : 0 ≤ v0.toInt ∧ v0.toInt ≤ 16 := jok_rngI hK_a0 rfl hF_v0
  have hF_gr := hr_gr.get hO_a0
  obtain ⟨w_gr, hFq_gr, b_gr, hbq_gr, hb_gr⟩ := hK_a0.2 1 (.inr (some (.inl 14))) rfl
  cases hF_gr.symm.trans (hFq_gr.trans (congrArg some hbq_gr))
  have hF_mn := hr_mn.get hO_a0
  obtain ⟨w_mn, hFq_mn, b_mn, hbq_mn, hb_mn⟩ := hK_a0.2 2 (.inr (some (.inl 15))) rfl
  cases hF_mn.symm.trans (hFq_mn.trans (congrArg some hbq_mn))
  have hF_sp := hr_sp.get hO_a0
  obtain ⟨w_sp, hFq_sp, b_sp, hbq_sp, hb_sp⟩ := hK_a0.2 3 (.inr (some (.inl 16))) rfl
  cases hF_sp.symm.trans (hFq_sp.trans (congrArg some hbq_sp))
  have hF_rw := hr_rw.get hO_a0
  obtain ⟨w_rw, hFq_rw, b_rw, hbq_rw, hb_rw⟩ := hK_a0.2 4 (.inr (some (.inl 17))) rfl
  cases hF_rw.symm.trans (hFq_rw.trans (congrArg some hbq_rw))
  have hF_px := hr_px.get hO_a0
  obtain ⟨w_px, hFq_px, b_px, hbq_px, hb_px⟩ := hK_a0.2 6 (.inr (some (.inl 18))) rfl
  cases hF_px.symm.trans (hFq_px.trans (congrArg some hbq_px))
  have hF_py := hr_py.get hO_a0
  obtain ⟨w_py, hFq_py, b_py, hbq_py, hb_py⟩ := hK_a0.2 7 (.inr (some (.inl 19))) rfl
  cases hF_py.symm.trans (hFq_py.trans (congrArg some hbq_py))
  have hF_pz := hr_pz.get hO_a0
  obtain ⟨w_pz, hFq_pz, b_pz, hbq_pz, hb_pz⟩ := hK_a0.2 8 (.inr (some (.inl 20))) rfl
  cases hF_pz.symm.trans (hFq_pz.trans (congrArg some hbq_pz))
  obtain ⟨hN_GA, hv_GA⟩ := WT_rngI (r := (0, 3)) hW id rfl ha_GA
  clear hN_GA
  obtain ⟨hN_MN, hv_MN⟩ := WT_rngI (r := (0, 60)) hW id rfl ha_MN
  clear hN_MN
  obtain ⟨hN_SP, hv_SP⟩ := WT_rngI (r := ((-2147483648), 2147483647)) hW id rfl ha_SP
  clear hN_SP
  obtain ⟨hN_RW, hv_RW⟩ := WT_rngI (r := ((-2147483648), 2147483647)) hW id rfl ha_RW
  clear hN_RW
  obtain ⟨hN_PX, hv_PX⟩ := WT_rngI (r := ((-2147483648), 2147483647)) hW id rfl ha_PX
  clear hN_PX
  obtain ⟨hN_PY, hv_PY⟩ := WT_rngI (r := ((-2147483648), 2147483647)) hW id rfl ha_PY
  clear hN_PY
  obtain ⟨hN_PZ, hv_PZ⟩ := WT_rngI (r := ((-2147483648), 2147483647)) hW id rfl ha_PZ
  clear hN_PZ
  refine J_aload_n dX7_place_0 rfl ?_
  refine J_iload_n dX7_place_1 rfl ?_
  refine Jw_callV1 (q9 := (RX7, TX7, 34)) moX7_isWalk jw_ml_X7_130 jw_im_X7_isWalk jw_se_X7_isWalk ha0 rfl rfl dX7_place_2 (w_X7_isWalk_z (d - 1) _ a0 x1 v0 (by omega) hW  ha0 ⟨_, hO_a0, hF_v0⟩) (by omega) (Nat.zero_le _) (Nat.zero_le _) (Nat.le_of_ble_eq_true rfl) (fun r2 V2 h2 => ?_)
  obtain ⟨⟨y2, rfl, hl2, hh2, hP2_0⟩, hE2⟩ := h2
  have hE2 := hE2.symm
  subst hE2
  refine Jz_if_eq (tgt := 31) jEq.rf dX7_place_5 (by decide) (fun c5 => ?_) (fun c5 => ?_)
  · exact False.elim (by omega)
  · refine J_iload_n dX7_place_8 rfl ?_
    refine Jz_iconst 0 dX7_place_9 (by decide) (fun y9 he9 => ?_)
    refine J_aload_n dX7_place_10 rfl ?_
    refine J_get jf_X7_13 dX7_place_11 hO_a0 hF_mn ?_
    refine J_iload_n dX7_place_14 rfl ?_
    refine Jz_iald (r := (0, 60)) jEq.rf dX7_place_15 ha_MN rfl hv_MN (by omega) (by omega) (fun y15 hf15 hl15 hh15 => ?_)
    dsimp only at hl15 hh15
    have hq15 : (MN x1.toInt.toNat).toInt = y15.toInt := by rw [hf15]
    refine J_callS3 moX7_in jw_ml_X7_105 jw_st_X7_in dX7_place_16 (w_X7_in (d - 1) _ x2 y9 y15 (by omega)   ) (by omega) (Nat.zero_le _) (Nat.zero_le _) (Nat.le_of_ble_eq_true rfl) (fun r16 V16 h16 => ?_)
    obtain ⟨⟨y16, rfl, hl16, hh16, hI16_0, hI16_1⟩, hE16⟩ := h16
    have hE16 := hE16.symm
    subst hE16
    refine Jz_if_eq (tgt := 31) jEq.rf dX7_place_19 (by decide) (fun c19 => ?_) (fun c19 => ?_)
    · have q19_1 := hI16_1.of (by omega)
      try simp only [he9.eq] at q19_1
      exact False.elim (by omega)
    · have q19_0 := hI16_0.of (by omega)
      try simp only [he9.eq] at q19_0
      refine J_iload_n dX7_place_22 rfl ?_
      refine Jz_iconst 0 dX7_place_23 (by decide) (fun y23 he23 => ?_)
      refine Jz_iconst 2 dX7_place_24 (by decide) (fun y24 he24 => ?_)
      refine J_callS3 moX7_in jw_ml_X7_105 jw_st_X7_in dX7_place_25 (w_X7_in (d - 1) _ x3 y23 y24 (by omega)   ) (by omega) (Nat.zero_le _) (Nat.zero_le _) (Nat.le_of_ble_eq_true rfl) (fun r25 V25 h25 => ?_)
      obtain ⟨⟨y25, rfl, hl25, hh25, hI25_0, hI25_1⟩, hE25⟩ := h25
      have hE25 := hE25.symm
      subst hE25
      refine Jz_if_ne (tgt := 35) jEq.rf dX7_place_28 (by decide) (fun c28 => ?_) (fun c28 => ?_)
      · have q28_0 := hI25_0.of (by omega)
        try simp only [he23.eq, he24.eq] at q28_0
        refine J_aload_n dX7_place_35 rfl ?_
        refine J_iload_n dX7_place_36 rfl ?_
        have hmr := hv_MN x1.toInt.toNat (by omega)
        dsimp only at hmr
        refine Jw_callV1 (q9 := (RX7, TX7, 34)) moX7_brings jw_ml_X7_137 jw_im_X7_brings jw_se_X7_brings ha0 rfl rfl dX7_place_37 (w_X7_brings_z (d - 1) _ a0 x1 mn sp rw MN SP RW (by omega) hW  ha0 ⟨_, hO_a0, hF_mn⟩ ⟨_, hO_a0, hF_sp⟩ ⟨_, hO_a0, hF_rw⟩ ha_MN ha_SP ha_RW (by omega) (by omega)) (by omega) (Nat.zero_le _) (Nat.zero_le _) (Nat.le_of_ble_eq_true rfl) (fun r37 V37 h37 => ?_)
        obtain ⟨h37, hX37_0, hX37_1, ⟨fv37_0, hfv37_0, hfp37_0⟩⟩ := h37
        obtain ⟨hW, hx37, hr37⟩ := h37
        have he := he.trans (hx37.sub (jsub_of rfl))
        have hkp := hkp.trans hX37_1
        have ha0 := ha0.mono hx37.1
        have hb_gr := hb_gr.mono hx37.1
        have hb_mn := hb_mn.mono hx37.1
        have hb_sp := hb_sp.mono hx37.1
        have hb_rw := hb_rw.mono hx37.1
        have hb_px := hb_px.mono hx37.1
        have hb_py := hb_py.mono hx37.1
        have hb_pz := hb_pz.mono hx37.1
        obtain ⟨fs37a0, hOfs37a0, hRfs37a0⟩ := hx37.1.keep hO_a0
        have hKfs37a0 : jokO _ (jFs 5) fs37a0 := hW _ _ id hOfs37a0
        have hFfs37a0_1 := hRfs37a0 _ _ hF_gr
        have hFfs37a0_2 := hRfs37a0 _ _ hF_mn
        have hFfs37a0_3 := hRfs37a0 _ _ hF_sp
        have hFfs37a0_4 := hRfs37a0 _ _ hF_rw
        have hFfs37a0_6 := hRfs37a0 _ _ hF_px
        have hFfs37a0_7 := hRfs37a0 _ _ hF_py
        have hFfs37a0_8 := hRfs37a0 _ _ hF_pz
        have ha_GA := hx37.2 _ _ ha_GA (jnot_of rfl)
        have ha_MN := hx37.2 _ _ ha_MN (jnot_of rfl)
        have ha_SP := hx37.2 _ _ ha_SP (jnot_of rfl)
        have ha_PX := hx37.2 _ _ ha_PX (jnot_of rfl)
        have ha_PY := hx37.2 _ _ ha_PY (jnot_of rfl)
        have ha_PZ := hx37.2 _ _ ha_PZ (jnot_of rfl)
        cases hr37
        have hFv37_0 := hfv37_0.get hOfs37a0
        have hzf37_0 : jEq fv37_0.toInt ((MN (x1.toInt).toNat).toInt) := hfp37_0
        clear hfp37_0
        obtain ⟨R2, hR2, hRe⟩ := hX37_0
        obtain ⟨hN_R2, hv_R2⟩ := WT_rngI (r := ((-2147483648), 2147483647)) hW id rfl hR2
        clear hN_R2
        refine J_aload_n dX7_place_40 rfl ?_
        refine J_aload_n dX7_place_41 rfl ?_
        refine J_get jf_X7_7 dX7_place_42 hOfs37a0 hFfs37a0_1 ?_
        refine J_iload_n dX7_place_45 rfl ?_
        refine Jz_iald (r := (0, 3)) jEq.rf dX7_place_46 ha_GA rfl hv_GA (by omega) (by omega) (fun y46 hf46 hl46 hh46 => ?_)
        dsimp only at hl46 hh46
        have hq46 : (GA x1.toInt.toNat).toInt = y46.toInt := by rw [hf46]
        refine Jw_callV1 (q9 := (RX7, TX7, 34)) moX7_goes jw_ml_X7_122 jw_im_X7_goes jw_se_X7_goes ha0 rfl rfl dX7_place_47 (w_X7_goes_z (d - 1) _ a0 y46 fv37_0 rw px py pz R2 PX PY PZ (by omega) hW  ha0 ⟨_, hOfs37a0, hFv37_0⟩ ⟨_, hOfs37a0, hFfs37a0_4⟩ ⟨_, hOfs37a0, hFfs37a0_6⟩ ⟨_, hOfs37a0, hFfs37a0_7⟩ ⟨_, hOfs37a0, hFfs37a0_8⟩ hR2 ha_PX ha_PY ha_PZ (by omega) (by omega)) (by omega) (Nat.zero_le _) (Nat.zero_le _) (Nat.le_of_ble_eq_true rfl) (fun r47 V47 h47 => ?_)
        obtain ⟨h47, hX47_0⟩ := h47
        obtain ⟨hW, hx47, hr47⟩ := h47
        have he := he.trans (hx47.sub (jsub_of rfl))
        have hkp := hkp.trans (jkc.of hx47 (jnot_of rfl))
        have ha0 := ha0.mono hx47.1
        have hb_gr := hb_gr.mono hx47.1
        have hb_mn := hb_mn.mono hx47.1
        have hb_sp := hb_sp.mono hx47.1
        have hb_rw := hb_rw.mono hx47.1
        have hb_px := hb_px.mono hx47.1
        have hb_py := hb_py.mono hx47.1
        have hb_pz := hb_pz.mono hx47.1
        have hOfs37a0 := hx47.2 _ _ hOfs37a0 (jnot_of rfl)
        have hKfs37a0 := hKfs37a0.mono hx47.1
        have ha_GA := hx47.2 _ _ ha_GA (jnot_of rfl)
        have ha_MN := hx47.2 _ _ ha_MN (jnot_of rfl)
        have ha_SP := hx47.2 _ _ ha_SP (jnot_of rfl)
        have hR2 := hx47.2 _ _ hR2 (jnot_of rfl)
        obtain ⟨y47, rfl, hl47, hh47, hP47_0⟩ := hr47
        try simp only [hzf37_0.eq] at hP47_0
        obtain ⟨X9, Y9, Z9, hX9, hY9, hZ9, hjv⟩ := hX47_0
        simp only [hzf37_0.eq, ← hq46] at hjv
        have hjt := hjv x2.toInt.toNat (by omega)
        rw [jPt_congr (U := (fun q => (SP (60 * x1.toInt.toNat + q)).toInt)) _ (fun k hk => by show (R2 k).toInt = _; rw [hRe k (by omega)])] at hjt
        obtain ⟨hN_X9, hv_X9⟩ := WT_rngI (r := ((-2147483648), 2147483647)) hW id rfl hX9
        clear hN_X9
        obtain ⟨hN_Y9, hv_Y9⟩ := WT_rngI (r := ((-2147483648), 2147483647)) hW id rfl hY9
        clear hN_Y9
        obtain ⟨hN_Z9, hv_Z9⟩ := WT_rngI (r := ((-2147483648), 2147483647)) hW id rfl hZ9
        clear hN_Z9
        refine J_pop dX7_place_50 rfl ?_
        refine J_iload_n dX7_place_51 rfl ?_
        refine Jz_if_ne (tgt := 64) jEq.rf dX7_place_52 (by decide) (fun c52 => ?_) (fun c52 => ?_)
        · refine J_iload_n dX7_place_64 rfl ?_
          refine Jz_iconst 1 dX7_place_65 (by decide) (fun y65 he65 => ?_)
          refine Jz_icmp_ne (tgt := 78) jEq.rf he65 dX7_place_66 (by decide) (fun c66 => ?_) (fun c66 => ?_)
          · refine J_aload_n dX7_place_78 rfl ?_
            refine J_get jf_X7_28 dX7_place_79 hOfs37a0 hFfs37a0_8 ?_
            refine J_iload_n dX7_place_82 rfl ?_
            refine Jz_iald (r := ((-2147483648), 2147483647)) jEq.rf dX7_place_83 hZ9 rfl hv_Z9 (by omega) (by omega) (fun y83 hf83 hl83 hh83 => ?_)
            dsimp only at hl83 hh83
            clear hl83 hh83
            rw [hf83] at hjt
            exact J_ret (r := some (.int _)) dX7_place_84 ⟨rfl, _, rfl, rfl⟩ (⟨⟨hW, he, ⟨_, rfl, (j_rng _).1, (j_rng _).2, (by omega)⟩⟩, hkp⟩)
          · refine J_aload_n dX7_place_69 rfl ?_
            refine J_get jf_X7_25 dX7_place_70 hOfs37a0 hFfs37a0_7 ?_
            refine J_iload_n dX7_place_73 rfl ?_
            refine Jz_iald (r := ((-2147483648), 2147483647)) jEq.rf dX7_place_74 hY9 rfl hv_Y9 (by omega) (by omega) (fun y74 hf74 hl74 hh74 => ?_)
            dsimp only at hl74 hh74
            clear hl74 hh74
            rw [hf74] at hjt
            refine J_goto (tgt := 84) dX7_place_75 (by decide) ?_
            exact J_ret (r := some (.int _)) dX7_place_84 ⟨rfl, _, rfl, rfl⟩ (⟨⟨hW, he, ⟨_, rfl, (j_rng _).1, (j_rng _).2, (by omega)⟩⟩, hkp⟩)
        · refine J_aload_n dX7_place_55 rfl ?_
          refine J_get jf_X7_22 dX7_place_56 hOfs37a0 hFfs37a0_6 ?_
          refine J_iload_n dX7_place_59 rfl ?_
          refine Jz_iald (r := ((-2147483648), 2147483647)) jEq.rf dX7_place_60 hX9 rfl hv_X9 (by omega) (by omega) (fun y60 hf60 hl60 hh60 => ?_)
          dsimp only at hl60 hh60
          clear hl60 hh60
          rw [hf60] at hjt
          refine J_goto (tgt := 84) dX7_place_61 (by decide) ?_
          exact J_ret (r := some (.int _)) dX7_place_84 ⟨rfl, _, rfl, rfl⟩ (⟨⟨hW, he, ⟨_, rfl, (j_rng _).1, (j_rng _).2, (by omega)⟩⟩, hkp⟩)
      · have q28_1 := hI25_1.of (by omega)
        try simp only [he23.eq, he24.eq] at q28_1
        exact False.elim (by omega)
set_option maxRecDepth 100000 in
set_option maxHeartbeats 8000000 in
theorem w_X7_digest_z {tS : jTS} (d : Nat) (V0 : jH) (a0 : Nat) (v0 : Int32) (wd : Int32) (hg : Int32) (gr : Nat) (mn : Nat) (sp : Nat) (rh : Nat) (cn : Int32) (GA : Nat → Int32) (MN : Nat → Int32) (SP : Nat → Int32) (H43 : Nat → Int32) (hd : 2 ≤ d) (hW : WT V0) (ha0 : jis V0 (.inr 5) a0) (hf_v0 : jfI V0 a0 5 0 v0) (hf_wd : jfI V0 a0 5 23 wd) (hf_hg : jfI V0 a0 5 24 hg) (hr_gr : jfR V0 a0 5 1 gr) (hr_mn : jfR V0 a0 5 2 mn) (hr_sp : jfR V0 a0 5 3 sp) (hr_rh : jfR V0 a0 5 25 rh) (ha_GA : V0 gr = some (.inl (14, 16, .inl GA))) (ha_MN : V0 mn = some (.inl (15, 16, .inl MN))) (ha_SP : V0 sp = some (.inl (16, 960, .inl SP))) (ha_H43 : V0 rh = some (.inl (43, 36, .inl H43))) (hp0 : 2 ≤ wd.toInt) (hp1 : wd.toInt ≤ 6) (hp2 : 2 ≤ hg.toInt) (hp3 : hg.toInt ≤ 6) (hp4 : cn.toInt = ((jcn 1 H43 (wd.toInt * hg.toInt).toNat : Nat) : Int)) : jTot tS mX7_digest d [.ref a0] V0 0 0 (fun r V => (fun r _ => ∃ y : Int64, r = some (.long y) ∧ (y = jdh (fun q : Nat => decide (¬ (H43 q).toInt = 0)) (wd.toInt.toNat * hg.toInt.toNat) (jdw GA MN SP v0.toInt.toNat (jdg (jC4 v0 cn wd hg) 4 107)))) r V ∧ V = V0) := by
  refine jTot.of_J [some (.ref a0), none, none, none, none] moX7_digest (Nat.le_of_ble_eq_true rfl) rfl ?_
  have he : jeff [] V0 V0 := jeff.refl _ _
  obtain ⟨fs_a0, hO_a0, hK_a0⟩ := WT_obj hW id ha0
  have hF_v0 := hf_v0.get hO_a0
  have hrv0 : 0 ≤ v0.toInt ∧ v0.toInt ≤ 16 := jok_rngI hK_a0 rfl hF_v0
  have hF_wd := hf_wd.get hO_a0
  have hrwd : 2 ≤ wd.toInt ∧ wd.toInt ≤ 6 := jok_rngI hK_a0 rfl hF_wd
  have hF_hg := hf_hg.get hO_a0
  have hrhg : 2 ≤ hg.toInt ∧ hg.toInt ≤ 6 := jok_rngI hK_a0 rfl hF_hg
  have hF_gr := hr_gr.get hO_a0
  obtain ⟨w_gr, hFq_gr, b_gr, hbq_gr, hb_gr⟩ := hK_a0.2 1 (.inr (some (.inl 14))) rfl
  cases hF_gr.symm.trans (hFq_gr.trans (congrArg some hbq_gr))
  have hF_mn := hr_mn.get hO_a0
  obtain ⟨w_mn, hFq_mn, b_mn, hbq_mn, hb_mn⟩ := hK_a0.2 2 (.inr (some (.inl 15))) rfl
  cases hF_mn.symm.trans (hFq_mn.trans (congrArg some hbq_mn))
  have hF_sp := hr_sp.get hO_a0
  obtain ⟨w_sp, hFq_sp, b_sp, hbq_sp, hb_sp⟩ := hK_a0.2 3 (.inr (some (.inl 16))) rfl
  cases hF_sp.symm.trans (hFq_sp.trans (congrArg some hbq_sp))
  have hF_rh := hr_rh.get hO_a0
  obtain ⟨w_rh, hFq_rh, b_rh, hbq_rh, hb_rh⟩ := hK_a0.2 25 (.inr (some (.inl 43))) rfl
  cases hF_rh.symm.trans (hFq_rh.trans (congrArg some hbq_rh))
  obtain ⟨hN_GA, hv_GA⟩ := WT_rngI (r := (0, 3)) hW id rfl ha_GA
  clear hN_GA
  obtain ⟨hN_MN, hv_MN⟩ := WT_rngI (r := (0, 60)) hW id rfl ha_MN
  clear hN_MN
  obtain ⟨hN_SP, hv_SP⟩ := WT_rngI (r := ((-2147483648), 2147483647)) hW id rfl ha_SP
  clear hN_SP
  obtain ⟨hN_H43, hv_H43⟩ := WT_rngI (r := (0, 1)) hW id rfl ha_H43
  clear hN_H43
  refine J_ldc2 jw_k_X7_233 dX7_digest_0 ?_
  refine J_lstore_n dX7_digest_3 rfl (by decide) ?_
  refine Jz_iconst 0 dX7_digest_4 (by decide) (fun y4 he4 => ?_)
  refine J_istore_n dX7_digest_5 rfl (by decide) ?_
  have L6 : ∀ (N : Nat) (i1n6 : Int64) (i3n6 : Int32), (0 ≤ i3n6.toInt ∧ i3n6.toInt ≤ 4) → (i1n6 = jdg (jC4 v0 cn wd hg) i3n6.toInt.toNat 107) → (300 - i3n6.toInt).toNat < N → J tS mX7_digest d 6 [some (.ref a0), some (.long i1n6), none, some (.int i3n6), none] [] V0 0 0 (fun r V => (fun r _ => ∃ y : Int64, r = some (.long y) ∧ (y = jdh (fun q : Nat => decide (¬ (H43 q).toInt = 0)) (wd.toInt.toNat * hg.toInt.toNat) (jdw GA MN SP v0.toInt.toNat (jdg (jC4 v0 cn wd hg) 4 107)))) r V ∧ V = V0) := by
    intro N
    induction N with
    | zero => intro i1n6 i3n6  hi3 hh hm; exact absurd hm (Nat.not_lt_zero _)
    | succ N ih =>
      intro i1n6 i3n6  hi3 hh hm
      have ih6 := ih
      have hri3 := j_rng i3n6
      refine J_iload_n dX7_digest_6 rfl ?_
      refine Jz_iconst 4 dX7_digest_7 (by decide) (fun y7 he7 => ?_)
      refine Jz_icmp_ge (tgt := 30) jEq.rf he7 dX7_digest_8 (by decide) (fun c8 => ?_) (fun c8 => ?_)
      · refine Jz_iconst 0 dX7_digest_30 (by decide) (fun y30 he30 => ?_)
        refine J_istore_n dX7_digest_31 rfl (by decide) ?_
        have L32 : ∀ (N : Nat) (i1n32 : Int64) (i3n32 : Int32), (0 ≤ i3n32.toInt ∧ i3n32.toInt ≤ v0.toInt) → (i1n32 = jdw GA MN SP i3n32.toInt.toNat (jdg (jC4 v0 cn wd hg) 4 107)) → (300 - i3n32.toInt).toNat < N → J tS mX7_digest d 32 [some (.ref a0), some (.long i1n32), none, some (.int i3n32), none] [] V0 0 0 (fun r V => (fun r _ => ∃ y : Int64, r = some (.long y) ∧ (y = jdh (fun q : Nat => decide (¬ (H43 q).toInt = 0)) (wd.toInt.toNat * hg.toInt.toNat) (jdw GA MN SP v0.toInt.toNat (jdg (jC4 v0 cn wd hg) 4 107)))) r V ∧ V = V0) := by
          intro N
          induction N with
          | zero => intro i1n32 i3n32  hi3b hh2 hm; exact absurd hm (Nat.not_lt_zero _)
          | succ N ih =>
            intro i1n32 i3n32  hi3b hh2 hm
            have ih32 := ih
            have hri3 := j_rng i3n32
            refine J_iload_n dX7_digest_32 rfl ?_
            refine J_aload_n dX7_digest_33 rfl ?_
            refine J_get jf_X7_102 dX7_digest_34 hO_a0 hF_v0 ?_
            refine Jz_icmp_ge (tgt := 100) jEq.rf jEq.rf dX7_digest_37 (by decide) (fun c37 => ?_) (fun c37 => ?_)
            · refine Jz_iconst 0 dX7_digest_100 (by decide) (fun y100 he100 => ?_)
              refine J_istore_n dX7_digest_101 rfl (by decide) ?_
              have L102 : ∀ (N : Nat) (i1n102 : Int64) (i3n102 : Int32), (0 ≤ i3n102.toInt ∧ i3n102.toInt ≤ wd.toInt * hg.toInt) → (i1n102 = jdh (fun q : Nat => decide (¬ (H43 q).toInt = 0)) i3n102.toInt.toNat (jdw GA MN SP v0.toInt.toNat (jdg (jC4 v0 cn wd hg) 4 107))) → (300 - i3n102.toInt).toNat < N → J tS mX7_digest d 102 [some (.ref a0), some (.long i1n102), none, some (.int i3n102), none] [] V0 0 0 (fun r V => (fun r _ => ∃ y : Int64, r = some (.long y) ∧ (y = jdh (fun q : Nat => decide (¬ (H43 q).toInt = 0)) (wd.toInt.toNat * hg.toInt.toNat) (jdw GA MN SP v0.toInt.toNat (jdg (jC4 v0 cn wd hg) 4 107)))) r V ∧ V = V0) := by
                intro N
                induction N with
                | zero => intro i1n102 i3n102  hi3c hh4 hm; exact absurd hm (Nat.not_lt_zero _)
                | succ N ih =>
                  intro i1n102 i3n102  hi3c hh4 hm
                  have ih102 := ih
                  have hri3 := j_rng i3n102
                  have hm2 := Int.mul_nonneg (show 0 ≤ wd.toInt by omega) (show 0 ≤ hg.toInt by omega)
                  have hm3 := Int.mul_le_mul_of_nonneg_left (show hg.toInt ≤ 6 by omega) (show 0 ≤ wd.toInt by omega)
                  have hmc := jcell_nat2 (w := wd.toInt) (y := hg.toInt) (by omega) (by omega)
                  refine J_iload_n dX7_digest_102 rfl ?_
                  refine J_aload_n dX7_digest_103 rfl ?_
                  refine J_get jf_X7_73 dX7_digest_104 hO_a0 hF_wd ?_
                  refine J_aload_n dX7_digest_107 rfl ?_
                  refine J_get jf_X7_77 dX7_digest_108 hO_a0 hF_hg ?_
                  refine Jz_imul jEq.rf jEq.rf dX7_digest_111 (by omega) (by omega) (fun y111 he111 => ?_)
                  refine Jz_icmp_ge (tgt := 143) jEq.rf he111 dX7_digest_112 (by decide) (fun c112 => ?_) (fun c112 => ?_)
                  · refine J_lload_n dX7_digest_143 rfl ?_
                    exact J_ret (r := some (.long _)) dX7_digest_144 ⟨rfl, rfl⟩ (⟨⟨_, rfl, (by rw [show wd.toInt.toNat * hg.toInt.toNat = i3n102.toInt.toNat by omega]; exact hh4)⟩, rfl⟩)
                  · refine J_aload_n dX7_digest_115 rfl ?_
                    refine J_get jf_X7_80 dX7_digest_116 hO_a0 hF_rh ?_
                    refine J_iload_n dX7_digest_119 rfl ?_
                    refine Jz_zald (r := (0, 1)) jEq.rf dX7_digest_120 ha_H43 rfl hv_H43 (by omega) (by omega) (fun y120 hf120 hl120 hh120 => ?_)
                    dsimp only at hl120 hh120
                    refine Jz_if_eq (tgt := 135) jEq.rf dX7_digest_121 (by decide) (fun c121 => ?_) (fun c121 => ?_)
                    · refine J_lload_n dX7_digest_135 rfl ?_
                      refine J_lstore_n dX7_digest_136 rfl (by decide) ?_
                      refine Jz_iinc 1 dX7_digest_137 rfl rfl (by decide) jEq.rf (by decide) (by omega) (by omega) (fun y137 he137 => ?_)
                      refine J_goto (tgt := 102) dX7_digest_140 (by decide) ?_
                      refine J.mask [true, true, false, true, false] ?_
                      exact ih102  i1n102 y137  (by (try simp only [he137.eq, true_and, and_true]) <;> omega) (by rw [he137.eq, show (i3n102.toInt + 1).toNat = i3n102.toInt.toNat + 1 by omega, jdh_no (by rw [hf120]; exact decide_eq_false (fun z => z c121))]; exact hh4) (by (try simp only [he137.eq, true_and, and_true]) <;> omega)
                    · refine J_ldc2 jw_k_X7_235 dX7_digest_124 ?_
                      refine J_lload_n dX7_digest_127 rfl ?_
                      refine J_lmul dX7_digest_128 ?_
                      refine J_iload_n dX7_digest_129 rfl ?_
                      refine J_i2l dX7_digest_130 rfl ?_
                      refine J_ladd dX7_digest_131 ?_
                      refine J_goto (tgt := 136) dX7_digest_132 (by decide) ?_
                      refine J_lstore_n dX7_digest_136 rfl (by decide) ?_
                      refine Jz_iinc 1 dX7_digest_137 rfl rfl (by decide) jEq.rf (by decide) (by omega) (by omega) (fun y137 he137 => ?_)
                      refine J_goto (tgt := 102) dX7_digest_140 (by decide) ?_
                      refine J.mask [true, true, false, true, false] ?_
                      exact ih102  (((31 : Int64) * i1n102) + i3n102.toInt64) y137  (by (try simp only [he137.eq, true_and, and_true]) <;> omega) (by rw [he137.eq, show (i3n102.toInt + 1).toNat = i3n102.toInt.toNat + 1 by omega, jdh_yes (v := i3n102) (by rw [hf120]; exact decide_eq_true c121) (by omega) (by omega), ← hh4]) (by (try simp only [he137.eq, true_and, and_true]) <;> omega)
              refine J.mask [true, true, false, true, false] ?_
              exact L102 _  i1n32 y100    (by rw [he100.eq]; have hm2 := Int.mul_nonneg (show 0 ≤ wd.toInt by omega) (show 0 ≤ hg.toInt by omega); omega) (by rw [he100.eq]; have e : i3n32.toInt.toNat = v0.toInt.toNat := (by omega); rw [e] at hh2; exact hh2) (Nat.lt_succ_self _)
            · refine J_ldc2 jw_k_X7_235 dX7_digest_40 ?_
              refine J_lload_n dX7_digest_43 rfl ?_
              refine J_lmul dX7_digest_44 ?_
              refine J_aload_n dX7_digest_45 rfl ?_
              refine J_get jf_X7_7 dX7_digest_46 hO_a0 hF_gr ?_
              refine J_iload_n dX7_digest_49 rfl ?_
              refine Jz_iald (r := (0, 3)) jEq.rf dX7_digest_50 ha_GA rfl hv_GA (by omega) (by omega) (fun y50 hf50 hl50 hh50 => ?_)
              dsimp only at hl50 hh50
              refine J_i2l dX7_digest_51 rfl ?_
              refine J_ladd dX7_digest_52 ?_
              refine J_lstore_n dX7_digest_53 rfl (by decide) ?_
              refine Jz_iconst 0 dX7_digest_54 (by decide) (fun y54 he54 => ?_)
              refine J_istore dX7_digest_55 rfl (by decide) ?_
              have L57 : ∀ (N : Nat) (i1n57 : Int64) (i4n57 : Int32), (0 ≤ i4n57.toInt ∧ i4n57.toInt ≤ (MN i3n32.toInt.toNat).toInt) → (i1n57 = jdg (fun q => SP (60 * i3n32.toInt.toNat + q)) i4n57.toInt.toNat (31 * jdw GA MN SP i3n32.toInt.toNat (jdg (jC4 v0 cn wd hg) 4 107) + (GA i3n32.toInt.toNat).toInt64)) → (300 - i4n57.toInt).toNat < N → J tS mX7_digest d 57 [some (.ref a0), some (.long i1n57), none, some (.int i3n32), some (.int i4n57)] [] V0 0 0 (fun r V => (fun r _ => ∃ y : Int64, r = some (.long y) ∧ (y = jdh (fun q : Nat => decide (¬ (H43 q).toInt = 0)) (wd.toInt.toNat * hg.toInt.toNat) (jdw GA MN SP v0.toInt.toNat (jdg (jC4 v0 cn wd hg) 4 107)))) r V ∧ V = V0) := by
                intro N
                induction N with
                | zero => intro i1n57 i4n57  hi4 hh3 hm; exact absurd hm (Nat.not_lt_zero _)
                | succ N ih =>
                  intro i1n57 i4n57  hi4 hh3 hm
                  have ih57 := ih
                  have hri4 := j_rng i4n57
                  have hmr2 := hv_MN i3n32.toInt.toNat (by omega)
                  dsimp only at hmr2
                  refine J_iload dX7_digest_57 rfl ?_
                  refine J_aload_n dX7_digest_59 rfl ?_
                  refine J_get jf_X7_13 dX7_digest_60 hO_a0 hF_mn ?_
                  refine J_iload_n dX7_digest_63 rfl ?_
                  refine Jz_iald (r := (0, 60)) jEq.rf dX7_digest_64 ha_MN rfl hv_MN (by omega) (by omega) (fun y64 hf64 hl64 hh64 => ?_)
                  dsimp only at hl64 hh64
                  have hq64 : (MN i3n32.toInt.toNat).toInt = y64.toInt := by rw [hf64]
                  refine Jz_icmp_ge (tgt := 94) jEq.rf jEq.rf dX7_digest_65 (by decide) (fun c65 => ?_) (fun c65 => ?_)
                  · refine Jz_iinc 1 dX7_digest_94 rfl rfl (by decide) jEq.rf (by decide) (by omega) (by omega) (fun y94 he94 => ?_)
                    refine J_goto (tgt := 32) dX7_digest_97 (by decide) ?_
                    refine J.mask [true, true, false, true, false] ?_
                    exact ih32  i1n57 y94  (by (try simp only [he94.eq, true_and, and_true]) <;> omega) (by rw [he94.eq, show (i3n32.toInt + 1).toNat = i3n32.toInt.toNat + 1 by omega]; show _ = jdg _ (MN i3n32.toInt.toNat).toInt.toNat _; rw [show (MN i3n32.toInt.toNat).toInt.toNat = i4n57.toInt.toNat by omega]; exact hh3) (by (try simp only [he94.eq, true_and, and_true]) <;> omega)
                  · refine J_ldc2 jw_k_X7_235 dX7_digest_68 ?_
                    refine J_lload_n dX7_digest_71 rfl ?_
                    refine J_lmul dX7_digest_72 ?_
                    refine J_aload_n dX7_digest_73 rfl ?_
                    refine J_get jf_X7_16 dX7_digest_74 hO_a0 hF_sp ?_
                    refine Jz_bipush 60 dX7_digest_77 (by decide) (fun y77 he77 => ?_)
                    refine J_iload_n dX7_digest_79 rfl ?_
                    refine Jz_imul he77 jEq.rf dX7_digest_80 (by omega) (by omega) (fun y80 he80 => ?_)
                    refine J_iload dX7_digest_81 rfl ?_
                    refine Jz_iadd he80 jEq.rf dX7_digest_83 (by omega) (by omega) (fun y83 he83 => ?_)
                    refine Jz_iald (r := ((-2147483648), 2147483647)) he83 dX7_digest_84 ha_SP rfl hv_SP (by omega) (by omega) (fun y84 hf84 hl84 hh84 => ?_)
                    dsimp only at hl84 hh84
                    clear hl84 hh84
                    refine J_i2l dX7_digest_85 rfl ?_
                    refine J_ladd dX7_digest_86 ?_
                    refine J_lstore_n dX7_digest_87 rfl (by decide) ?_
                    refine Jz_iinc 1 dX7_digest_88 rfl rfl (by decide) jEq.rf (by decide) (by omega) (by omega) (fun y88 he88 => ?_)
                    refine J_goto (tgt := 57) dX7_digest_91 (by decide) ?_
                    refine J.mask [true, true, false, true, true] ?_
                    exact ih57  (((31 : Int64) * i1n57) + y84.toInt64) y88  (by (try simp only [he88.eq, true_and, and_true]) <;> omega) (by rw [he88.eq, show (i4n57.toInt + 1).toNat = i4n57.toInt.toNat + 1 by omega]; show _ = 31 * jdg _ i4n57.toInt.toNat _ + (SP (60 * i3n32.toInt.toNat + i4n57.toInt.toNat)).toInt64; rw [← hh3, ← hf84, show (60 * i3n32.toInt + i4n57.toInt).toNat = 60 * i3n32.toInt.toNat + i4n57.toInt.toNat by omega]) (by (try simp only [he88.eq, true_and, and_true]) <;> omega)
              refine J.mask [true, true, false, true, true] ?_
              exact L57 _  (((31 : Int64) * i1n32) + y50.toInt64) y54    (by rw [he54.eq]; have hmr2 := hv_MN i3n32.toInt.toNat (by omega); dsimp only at hmr2; omega) (by rw [he54.eq, hh2, ← hf50]; rfl) (Nat.lt_succ_self _)
        refine J.mask [true, true, false, true, false] ?_
        exact L32 _  i1n6 y30    (by (try simp only [he30.eq, true_and, and_true]) <;> omega) (by rw [he30.eq]; have e : i3n6.toInt.toNat = 4 := (by omega); rw [e] at hh; exact hh) (Nat.lt_succ_self _)
      · refine J_ldc2 jw_k_X7_235 dX7_digest_11 ?_
        refine J_lload_n dX7_digest_14 rfl ?_
        refine J_lmul dX7_digest_15 ?_
        refine J_aload_n dX7_digest_16 rfl ?_
        refine J_iload_n dX7_digest_17 rfl ?_
        refine Jw_callV1 (q9 := (RX7, TX7, 34)) moX7_count jw_ml_X7_237 jw_im_X7_count jw_se_X7_count ha0 rfl rfl dX7_digest_18 (w_X7_count_z (d - 1) _ a0 i3n6 v0 wd hg rh H43 (by omega) hW  ha0 ⟨_, hO_a0, hF_v0⟩ ⟨_, hO_a0, hF_wd⟩ ⟨_, hO_a0, hF_hg⟩ ⟨_, hO_a0, hF_rh⟩ ha_H43 (by omega) (by omega) (by omega) (by omega)) (by omega) (Nat.zero_le _) (Nat.zero_le _) (Nat.le_of_ble_eq_true rfl) (fun r18 V18 h18 => ?_)
        obtain ⟨⟨y18, rfl, hl18, hh18, hP18_0⟩, hE18⟩ := h18
        have hE18 := hE18.symm
        subst hE18
        clear hl18 hh18
        have hcf : (jC4 v0 cn wd hg i3n6.toInt.toNat).toInt = y18.toInt := by unfold jC4; (repeat' split) <;> omega
        refine J_i2l dX7_digest_21 rfl ?_
        refine J_ladd dX7_digest_22 ?_
        refine J_lstore_n dX7_digest_23 rfl (by decide) ?_
        refine Jz_iinc 1 dX7_digest_24 rfl rfl (by decide) jEq.rf (by decide) (by omega) (by omega) (fun y24 he24 => ?_)
        refine J_goto (tgt := 6) dX7_digest_27 (by decide) ?_
        refine J.mask [true, true, false, true, false] ?_
        exact ih6  (((31 : Int64) * i1n6) + y18.toInt64) y24  (by (try simp only [he24.eq, true_and, and_true]) <;> omega) (by rw [he24.eq, show (i3n6.toInt + 1).toNat = i3n6.toInt.toNat + 1 by omega]; show _ = 31 * jdg (jC4 v0 cn wd hg) i3n6.toInt.toNat 107 + (jC4 v0 cn wd hg i3n6.toInt.toNat).toInt64; rw [← hh, jI_inj.mp hcf]) (by (try simp only [he24.eq, true_and, and_true]) <;> omega)
  refine J.mask [true, true, false, true, false] ?_
  exact L6 _  (107 : Int64) y4    (by (try simp only [he4.eq, true_and, and_true]) <;> omega) (by rw [he4.eq]; rfl) (Nat.lt_succ_self _)
set_option maxRecDepth 100000 in
set_option maxHeartbeats 8000000 in
theorem w_X7_tried_z {tS : jTS} (d : Nat) (V0 : jH) (a0 : Nat) (x1 : Int32) (x2 : Int32) (x3 : Int32) (x4 : Int32) (n : Int32) (rw : Nat) (RW : Nat → Int32) (hd : 2 ≤ d) (hW : WT V0) (ha0 : jis V0 (.inr 5) a0) (hl3 : 0 ≤ x3.toInt) (hh3 : x3.toInt ≤ 1) (hf_n : jfI V0 a0 5 5 n) (hr_rw : jfR V0 a0 5 4 rw) (ha_RW : V0 rw = some (.inl (17, 120, .inl RW))) (hp0 : 0 ≤ x1.toInt) (hp1 : x1.toInt ≤ 3) (hp2 : 0 ≤ x2.toInt) (hp3 : x2.toInt < jtur x1.toInt) (hp4 : 0 ≤ x4.toInt) (hp5 : x4.toInt < n.toInt) (hp6 : ∀ j : Nat, (j : Int) < n.toInt → 0 ≤ (RW j).toInt ∧ (RW j).toInt < jdir x1.toInt) : jTot tS mX7_tried d [.ref a0, .int x1, .int x2, .int x3, .int x4] V0 0 0 (fun r V => (fun r _ => ∃ y : Int32, r = some (.int y) ∧ ((-2147483648) ≤ y.toInt) ∧ (y.toInt ≤ 2147483647) ∧ (y.toInt = (jim x1.toInt (fun q => (RW q).toInt) n.toInt.toNat x2.toInt (decide (x3.toInt = 1)) x4.toInt.toNat))) r V ∧ V = V0) := by
  refine jTot.of_J [some (.ref a0), some (.int x1), some (.int x2), some (.int x3), some (.int x4)] moX7_tried (Nat.le_of_ble_eq_true rfl) rfl ?_
  have hrx1 := j_rng x1
  have hrx2 := j_rng x2
  have hrx4 := j_rng x4
  have he : jeff [] V0 V0 := jeff.refl _ _
  obtain ⟨fs_a0, hO_a0, hK_a0⟩ := WT_obj hW id ha0
  have hF_n := hf_n.get hO_a0
  have hrn : 0 ≤ n.toInt ∧ n.toInt ≤ 120 := jok_rngI hK_a0 rfl hF_n
  have hF_rw := hr_rw.get hO_a0
  obtain ⟨w_rw, hFq_rw, b_rw, hbq_rw, hb_rw⟩ := hK_a0.2 4 (.inr (some (.inl 17))) rfl
  cases hF_rw.symm.trans (hFq_rw.trans (congrArg some hbq_rw))
  obtain ⟨hN_RW, hv_RW⟩ := WT_rngI (r := ((-2147483648), 2147483647)) hW id rfl ha_RW
  clear hN_RW
  have hjd := jdir_cases x1.toInt
  refine J_iload_n dX7_tried_0 rfl ?_
  refine J_iload_n dX7_tried_1 rfl ?_
  refine J_iload_n dX7_tried_2 rfl ?_
  refine Jz_if_eq (tgt := 27) jEq.rf dX7_tried_3 (by decide) (fun c3 => ?_) (fun c3 => ?_)
  · refine J_aload_n dX7_tried_27 rfl ?_
    refine J_get jf_X7_19 dX7_tried_28 hO_a0 hF_rw ?_
    refine J_iload dX7_tried_31 rfl ?_
    refine Jz_iald (r := ((-2147483648), 2147483647)) jEq.rf dX7_tried_33 ha_RW rfl hv_RW (by omega) (by omega) (fun y33 hf33 hl33 hh33 => ?_)
    dsimp only at hl33 hh33
    clear hl33 hh33
    have hq33 : (RW x4.toInt.toNat).toInt = y33.toInt := by rw [hf33]
    have hsd := hp6 x4.toInt.toNat (by omega)
    rw [hq33] at hsd
    refine J_callS3 moX7_turned jw_ml_X7_146 jw_st_X7_turned dX7_tried_34 (w_X7_turned_z (d - 1) _ x1 x2 y33 (by omega)   (by omega) (by omega) (by omega) (by omega) (by omega) (by omega)) (by omega) (Nat.zero_le _) (Nat.zero_le _) (Nat.le_of_ble_eq_true rfl) (fun r34 V34 h34 => ?_)
    obtain ⟨⟨y34, rfl, hl34, hh34, hP34_0⟩, hE34⟩ := h34
    have hE34 := hE34.symm
    subst hE34
    clear hl34 hh34
    have hz34 : jEq y34.toInt (jtn (x1.toInt) (x2.toInt) (y33.toInt)) := hP34_0
    clear hP34_0
    exact J_ret (r := some (.int _)) dX7_tried_37 ⟨rfl, _, rfl, rfl⟩ (⟨⟨_, rfl, (j_rng _).1, (j_rng _).2, (by rw [hz34.eq]; unfold jim; first | (rw [show decide (x3.toInt = 1) = true from decide_eq_true (by omega)]; (show jtn _ _ _ = jtn _ _ (jopp _ (RW _).toInt)); rw [← hq20, show (n.toInt - 1 - x4.toInt).toNat = n.toInt.toNat - 1 - x4.toInt.toNat by omega]) | (rw [show decide (x3.toInt = 1) = false from decide_eq_false (by omega)]; (show jtn _ _ _ = jtn _ _ (RW _).toInt); rw [← hq33]))⟩, rfl⟩)
  · refine J_iload_n dX7_tried_6 rfl ?_
    refine J_aload_n dX7_tried_7 rfl ?_
    refine J_get jf_X7_19 dX7_tried_8 hO_a0 hF_rw ?_
    refine J_aload_n dX7_tried_11 rfl ?_
    refine J_get jf_X7_109 dX7_tried_12 hO_a0 hF_n ?_
    refine Jz_iconst 1 dX7_tried_15 (by decide) (fun y15 he15 => ?_)
    refine Jz_isub jEq.rf he15 dX7_tried_16 (by omega) (by omega) (fun y16 he16 => ?_)
    refine J_iload dX7_tried_17 rfl ?_
    refine Jz_isub he16 jEq.rf dX7_tried_19 (by omega) (by omega) (fun y19 he19 => ?_)
    refine Jz_iald (r := ((-2147483648), 2147483647)) he19 dX7_tried_20 ha_RW rfl hv_RW (by omega) (by omega) (fun y20 hf20 hl20 hh20 => ?_)
    dsimp only at hl20 hh20
    clear hl20 hh20
    have hq20 : (RW (n.toInt - 1 - x4.toInt).toNat).toInt = y20.toInt := by rw [hf20]
    have hsd := hp6 (n.toInt - 1 - x4.toInt).toNat (by omega)
    rw [hq20] at hsd
    refine J_callS2 moX7_opposite jw_ml_X7_149 jw_st_X7_opposite dX7_tried_21 (w_X7_opposite_z (d - 1) _ x1 y20 (by omega)   (by omega) (by omega) (by omega) (by omega)) (by omega) (Nat.zero_le _) (Nat.zero_le _) (Nat.le_of_ble_eq_true rfl) (fun r21 V21 h21 => ?_)
    obtain ⟨⟨y21, rfl, hl21, hh21, hP21_0⟩, hE21⟩ := h21
    have hE21 := hE21.symm
    subst hE21
    clear hl21 hh21
    have hz21 : jEq y21.toInt (jopp (x1.toInt) (y20.toInt)) := hP21_0
    clear hP21_0
    have hob := jopp_b (g := x1.toInt) (d := y20.toInt) (by omega) (by omega)
    refine J_goto (tgt := 34) dX7_tried_24 (by decide) ?_
    refine J_callS3 moX7_turned jw_ml_X7_146 jw_st_X7_turned dX7_tried_34 (w_X7_turned_z (d - 1) _ x1 x2 y21 (by omega)   (by omega) (by omega) (by omega) (by omega) (by (try simp only [hz21.eq, true_and, and_true]) <;> omega) (by (try simp only [hz21.eq, true_and, and_true]) <;> omega)) (by omega) (Nat.zero_le _) (Nat.zero_le _) (Nat.le_of_ble_eq_true rfl) (fun r34 V34 h34 => ?_)
    obtain ⟨⟨y34, rfl, hl34, hh34, hP34_0⟩, hE34⟩ := h34
    have hE34 := hE34.symm
    subst hE34
    clear hl34 hh34
    try simp only [hz21.eq] at hP34_0
    have hz34 : jEq y34.toInt (jtn (x1.toInt) (x2.toInt) (jopp (x1.toInt) (y20.toInt))) := hP34_0
    clear hP34_0
    exact J_ret (r := some (.int _)) dX7_tried_37 ⟨rfl, _, rfl, rfl⟩ (⟨⟨_, rfl, (j_rng _).1, (j_rng _).2, (by rw [hz34.eq]; unfold jim; first | (rw [show decide (x3.toInt = 1) = true from decide_eq_true (by omega)]; (show jtn _ _ _ = jtn _ _ (jopp _ (RW _).toInt)); rw [← hq20, show (n.toInt - 1 - x4.toInt).toNat = n.toInt.toNat - 1 - x4.toInt.toNat by omega]) | (rw [show decide (x3.toInt = 1) = false from decide_eq_false (by omega)]; (show jtn _ _ _ = jtn _ _ (RW _).toInt); rw [← hq33]))⟩, rfl⟩)
set_option maxRecDepth 100000 in
set_option maxHeartbeats 8000000 in
theorem w_X7_findForm_z {tS : jTS} (d : Nat) (V0 : jH) (a0 : Nat) (x1 : Int32) (n : Int32) (rw : Nat) (fm : Nat) (RW : Nat → Int32) (FM : Nat → Int32) (hd : 3 ≤ d) (hW : WT V0) (ha0 : jis V0 (.inr 5) a0) (hf_n : jfI V0 a0 5 5 n) (hr_rw : jfR V0 a0 5 4 rw) (hr_fm : jfR V0 a0 5 9 fm) (ha_RW : V0 rw = some (.inl (17, 120, .inl RW))) (ha_FM : V0 fm = some (.inl (21, 60, .inl FM))) (hp0 : 0 ≤ x1.toInt) (hp1 : x1.toInt ≤ 3) (hp2 : n.toInt ≤ 60) (hp3 : ∀ j : Nat, (j : Int) < n.toInt → 0 ≤ (RW j).toInt ∧ (RW j).toInt < jdir x1.toInt) : jTot tS mX7_findForm d [.ref a0, .int x1] V0 0 0 (fun r V => (jPost [.inl 21] V0 rV) r V ∧ (∃ F2 : Nat → Int32, V fm = some (.inl (21, 60, .inl F2)) ∧ ∀ j : Nat, j < n.toInt.toNat → (F2 j).toInt = jbs x1.toInt (fun q => (RW q).toInt) n.toInt.toNat (2 * jtur x1.toInt).toNat j)) := by
  refine jTot.of_J [some (.ref a0), some (.int x1), none, none, none, none, none] moX7_findForm (Nat.le_of_ble_eq_true rfl) rfl ?_
  have hrx1 := j_rng x1
  have he : jeff [.inl 21] V0 V0 := jeff.refl _ _
  obtain ⟨fs_a0, hO_a0, hK_a0⟩ := WT_obj hW id ha0
  have hF_n := hf_n.get hO_a0
  have hrn : 0 ≤ n.toInt ∧ n.toInt ≤ 120 := jok_rngI hK_a0 rfl hF_n
  have hF_rw := hr_rw.get hO_a0
  obtain ⟨w_rw, hFq_rw, b_rw, hbq_rw, hb_rw⟩ := hK_a0.2 4 (.inr (some (.inl 17))) rfl
  cases hF_rw.symm.trans (hFq_rw.trans (congrArg some hbq_rw))
  have hF_fm := hr_fm.get hO_a0
  obtain ⟨w_fm, hFq_fm, b_fm, hbq_fm, hb_fm⟩ := hK_a0.2 9 (.inr (some (.inl 21))) rfl
  cases hF_fm.symm.trans (hFq_fm.trans (congrArg some hbq_fm))
  obtain ⟨hN_RW, hv_RW⟩ := WT_rngI (r := ((-2147483648), 2147483647)) hW id rfl ha_RW
  clear hN_RW
  obtain ⟨hN_FM, hv_FM⟩ := WT_rngI (r := ((-2147483648), 2147483647)) hW id rfl ha_FM
  clear hN_FM
  have hjd := jdir_cases x1.toInt
  have htc := jtur_cases x1.toInt
  refine Jz_iconst 0 dX7_findForm_0 (by decide) (fun y0 he0 => ?_)
  refine J_istore_n dX7_findForm_1 rfl (by decide) ?_
  have L2 : ∀ (N : Nat) (V : jH) (i2n2 : Int32) (F21n2 : Nat → Int32), WT V → jeff [.inl 21] V0 V → (jis V (.inr 5) a0) → (jis V (.inl 17) rw) → (jis V (.inl 21) fm) → (V a0 = some (.inr (5, fs_a0))) → (jokO V (jFs 5) fs_a0) → (V fm = some (.inl (21, 60, .inl F21n2))) → (V rw = some (.inl (17, 120, .inl RW))) → (0 ≤ i2n2.toInt ∧ i2n2.toInt ≤ n.toInt) → (∀ j : Nat, (j : Int) < i2n2.toInt → (F21n2 j).toInt = (RW j).toInt) → (300 - i2n2.toInt).toNat < N → J tS mX7_findForm d 2 [some (.ref a0), some (.int x1), some (.int i2n2), none, none, none, none] [] V 0 0 (fun r V => (jPost [.inl 21] V0 rV) r V ∧ (∃ F2 : Nat → Int32, V fm = some (.inl (21, 60, .inl F2)) ∧ ∀ j : Nat, j < n.toInt.toNat → (F2 j).toInt = jbs x1.toInt (fun q => (RW q).toInt) n.toInt.toNat (2 * jtur x1.toInt).toNat j)) := by
    intro N
    induction N with
    | zero => intro V i2n2 F21n2 hW he ha0 hb_rw hb_fm hO_a0 hK_a0 hAF21n2 ha_RW hi2 hc hm; exact absurd hm (Nat.not_lt_zero _)
    | succ N ih =>
      intro V i2n2 F21n2 hW he ha0 hb_rw hb_fm hO_a0 hK_a0 hAF21n2 ha_RW hi2 hc hm
      have ih2 := ih
      have hri2 := j_rng i2n2
      obtain ⟨hNF21n2, hvF21n2⟩ := WT_rngI (r := ((-2147483648), 2147483647)) hW id rfl hAF21n2
      clear hNF21n2
      refine J_iload_n dX7_findForm_2 rfl ?_
      refine J_aload_n dX7_findForm_3 rfl ?_
      refine J_get jf_X7_109 dX7_findForm_4 hO_a0 hF_n ?_
      refine Jz_icmp_ge (tgt := 28) jEq.rf jEq.rf dX7_findForm_7 (by decide) (fun c7 => ?_) (fun c7 => ?_)
      · refine Jz_iconst 0 dX7_findForm_28 (by decide) (fun y28 he28 => ?_)
        refine J_istore_n dX7_findForm_29 rfl (by decide) ?_
        have L30 : ∀ (N : Nat) (V : jH) (i2n30 : Int32) (F21n30 : Nat → Int32), WT V → jeff [.inl 21] V0 V → (jis V (.inr 5) a0) → (jis V (.inl 17) rw) → (jis V (.inl 21) fm) → (V a0 = some (.inr (5, fs_a0))) → (jokO V (jFs 5) fs_a0) → (V fm = some (.inl (21, 60, .inl F21n30))) → (V rw = some (.inl (17, 120, .inl RW))) → (0 ≤ i2n30.toInt ∧ i2n30.toInt ≤ 2 * jtur x1.toInt) → (∀ j : Nat, j < n.toInt.toNat → (F21n30 j).toInt = jbs x1.toInt (fun q => (RW q).toInt) n.toInt.toNat i2n30.toInt.toNat j) → (300 - i2n30.toInt).toNat < N → J tS mX7_findForm d 30 [some (.ref a0), some (.int x1), some (.int i2n30), none, none, none, none] [] V 0 0 (fun r V => (jPost [.inl 21] V0 rV) r V ∧ (∃ F2 : Nat → Int32, V fm = some (.inl (21, 60, .inl F2)) ∧ ∀ j : Nat, j < n.toInt.toNat → (F2 j).toInt = jbs x1.toInt (fun q => (RW q).toInt) n.toInt.toNat (2 * jtur x1.toInt).toNat j)) := by
          intro N
          induction N with
          | zero => intro V i2n30 F21n30 hW he ha0 hb_rw hb_fm hO_a0 hK_a0 hAF21n30 ha_RW hi2b hb hm; exact absurd hm (Nat.not_lt_zero _)
          | succ N ih =>
            intro V i2n30 F21n30 hW he ha0 hb_rw hb_fm hO_a0 hK_a0 hAF21n30 ha_RW hi2b hb hm
            have ih30 := ih
            have hri2 := j_rng i2n30
            obtain ⟨hNF21n30, hvF21n30⟩ := WT_rngI (r := ((-2147483648), 2147483647)) hW id rfl hAF21n30
            clear hNF21n30
            refine J_iload_n dX7_findForm_30 rfl ?_
            refine Jz_iconst 2 dX7_findForm_31 (by decide) (fun y31 he31 => ?_)
            refine J_iload_n dX7_findForm_32 rfl ?_
            refine J_callS1 moX7_turns jw_ml_X7_143 jw_st_X7_turns dX7_findForm_33 (w_X7_turns (d - 1) _ x1 (by omega)   ) (by omega) (Nat.zero_le _) (Nat.zero_le _) (Nat.le_of_ble_eq_true rfl) (fun r33 V33 h33 => ?_)
            obtain ⟨⟨y33, rfl, hl33, hh33, hP33_0⟩, hE33⟩ := h33
            have hE33 := hE33.symm
            subst hE33
            have hz33 : jEq y33.toInt (jtur (x1.toInt)) := hP33_0
            simp only [hP33_0] at hl33 hh33
            clear hP33_0
            refine Jz_imul he31 hz33 dX7_findForm_36 (by omega) (by omega) (fun y36 he36 => ?_)
            refine Jz_icmp_ge (tgt := 167) jEq.rf he36 dX7_findForm_37 (by decide) (fun c37 => ?_) (fun c37 => ?_)
            · exact J_ret (r := none) dX7_findForm_167 ⟨rfl, rfl⟩ (⟨⟨hW, he, rfl⟩, ⟨F21n30, hAF21n30, by rw [show (2 * jtur x1.toInt).toNat = i2n30.toInt.toNat by omega]; exact hb⟩⟩)
            · refine J_iload_n dX7_findForm_40 rfl ?_
              refine Jz_iconst 2 dX7_findForm_41 (by decide) (fun y41 he41 => ?_)
              refine Jz_idivC jEq.rf he41 dX7_findForm_42 (by omega) (by omega) (fun y42 he42 => ?_)
              have hoq42 : y42.toInt = (i2n30.toInt) / (2) := he42.eq
              refine J_istore_n dX7_findForm_43 rfl (by decide) ?_
              refine J_iload_n dX7_findForm_44 rfl ?_
              refine Jz_iconst 2 dX7_findForm_45 (by decide) (fun y45 he45 => ?_)
              refine Jz_iremC jEq.rf he45 dX7_findForm_46 (by omega) (by omega) (fun y46 he46 => ?_)
              refine Jz_iconst 1 dX7_findForm_47 (by decide) (fun y47 he47 => ?_)
              refine Jz_icmp_ne (tgt := 55) he46 he47 dX7_findForm_48 (by decide) (fun c48 => ?_) (fun c48 => ?_)
              · refine Jz_iconst 0 dX7_findForm_55 (by decide) (fun y55 he55 => ?_)
                have hoq55 : y55.toInt = 0 := he55.eq
                refine J_istore dX7_findForm_56 rfl (by decide) ?_
                refine Jz_iconst 0 dX7_findForm_58 (by decide) (fun y58 he58 => ?_)
                refine J_istore dX7_findForm_59 rfl (by decide) ?_
                have L61 : ∀ (N : Nat) (i5n61 : Int32), (0 ≤ i5n61.toInt ∧ i5n61.toInt ≤ n.toInt) → (∀ j : Nat, (j : Int) < i5n61.toInt → (jim x1.toInt (fun q => (RW q).toInt) n.toInt.toNat y42.toInt (decide (y55.toInt = 1)) j) = (F21n30 j).toInt) → (300 - i5n61.toInt).toNat < N → J tS mX7_findForm d 61 [some (.ref a0), some (.int x1), some (.int i2n30), some (.int y42), some (.int y55), some (.int i5n61), none] [] V 0 0 (fun r V => (jPost [.inl 21] V0 rV) r V ∧ (∃ F2 : Nat → Int32, V fm = some (.inl (21, 60, .inl F2)) ∧ ∀ j : Nat, j < n.toInt.toNat → (F2 j).toInt = jbs x1.toInt (fun q => (RW q).toInt) n.toInt.toNat (2 * jtur x1.toInt).toNat j)) := by
                  intro N
                  induction N with
                  | zero => intro i5n61  hi5 heq hm; exact absurd hm (Nat.not_lt_zero _)
                  | succ N ih =>
                    intro i5n61  hi5 heq hm
                    have ih61 := ih
                    have hri5 := j_rng i5n61
                    refine J_iload dX7_findForm_61 rfl ?_
                    refine J_aload_n dX7_findForm_63 rfl ?_
                    refine J_get jf_X7_109 dX7_findForm_64 hO_a0 hF_n ?_
                    refine Jz_icmp_ge (tgt := 96) jEq.rf jEq.rf dX7_findForm_67 (by decide) (fun c67 => ?_) (fun c67 => ?_)
                    · refine J_iload dX7_findForm_96 rfl ?_
                      refine J_aload_n dX7_findForm_98 rfl ?_
                      refine J_get jf_X7_109 dX7_findForm_99 hO_a0 hF_n ?_
                      refine Jz_icmp_ge (tgt := 161) jEq.rf jEq.rf dX7_findForm_102 (by decide) (fun c102 => ?_) (fun c102 => ?_)
                      · refine Jz_iinc 1 dX7_findForm_161 rfl rfl (by decide) jEq.rf (by decide) (by omega) (by omega) (fun y161 he161 => ?_)
                        refine J_goto (tgt := 30) dX7_findForm_164 (by decide) ?_
                        refine J.mask [true, true, true, false, false, false, false] ?_
                        exact ih30 _ y161 F21n30 hW he ha0 hb_rw hb_fm hO_a0 hK_a0 hAF21n30 ha_RW (by (try simp only [he161.eq, true_and, and_true]) <;> omega) (by rw [he161.eq, show (i2n30.toInt + 1).toNat = i2n30.toInt.toNat + 1 by omega]; exact (jbs_step (K := i2n30.toInt.toNat) (t := y42.toInt) (b := decide (y55.toInt = 1)) (by omega) (decide_eq_decide.mpr (by omega)) hb (fun z => absurd z (jlx_eq (fun j hj => heq j (by omega)))) (fun _ j _ => rfl))) (by (try simp only [he161.eq, true_and, and_true]) <;> omega)
                      · refine J_aload_n dX7_findForm_105 rfl ?_
                        refine J_iload_n dX7_findForm_106 rfl ?_
                        refine J_iload_n dX7_findForm_107 rfl ?_
                        refine J_iload dX7_findForm_108 rfl ?_
                        refine J_iload dX7_findForm_110 rfl ?_
                        have c87x : ¬ (jim x1.toInt (fun q => (RW q).toInt) n.toInt.toNat y42.toInt (decide (y55.toInt = 1)) i5n61.toInt.toNat) = (F21n30 i5n61.toInt.toNat).toInt := by first | omega | (rw [hq86]; omega)
                        refine Jw_callV4 (q9 := (RX7, TX7, 34)) moX7_tried jw_ml_X7_170 jw_im_X7_tried jw_se_X7_tried ha0 rfl rfl dX7_findForm_112 (w_X7_tried_z (d - 1) _ a0 x1 y42 y55 i5n61 n rw RW (by omega) hW  ha0 (by omega) (by omega) ⟨_, hO_a0, hF_n⟩ ⟨_, hO_a0, hF_rw⟩ ha_RW (by omega) (by omega) (by omega) (by omega) (by omega) (by omega) (by omega)) (by omega) (Nat.zero_le _) (Nat.zero_le _) (Nat.le_of_ble_eq_true rfl) (fun r112 V112 h112 => ?_)
                        obtain ⟨⟨y112, rfl, hl112, hh112, hP112_0⟩, hE112⟩ := h112
                        have hE112 := hE112.symm
                        subst hE112
                        clear hl112 hh112
                        have hz112 : jEq y112.toInt ((jim (x1.toInt) (fun q => (RW q).toInt) (n.toInt).toNat (y42.toInt) (decide ((y55.toInt) = 1)) (i5n61.toInt).toNat)) := hP112_0
                        clear hP112_0
                        refine J_aload_n dX7_findForm_115 rfl ?_
                        refine J_get jf_X7_31 dX7_findForm_116 hO_a0 hF_fm ?_
                        refine J_iload dX7_findForm_119 rfl ?_
                        refine Jz_iald (r := ((-2147483648), 2147483647)) jEq.rf dX7_findForm_121 hAF21n30 rfl hvF21n30 (by omega) (by omega) (fun y121 hf121 hl121 hh121 => ?_)
                        dsimp only at hl121 hh121
                        clear hl121 hh121
                        refine Jz_icmp_ge (tgt := 161) hz112 jEq.rf dX7_findForm_122 (by decide) (fun c122 => ?_) (fun c122 => ?_)
                        · refine Jz_iinc 1 dX7_findForm_161 rfl rfl (by decide) jEq.rf (by decide) (by omega) (by omega) (fun y161 he161 => ?_)
                          refine J_goto (tgt := 30) dX7_findForm_164 (by decide) ?_
                          refine J.mask [true, true, true, false, false, false, false] ?_
                          exact ih30 _ y161 F21n30 hW he ha0 hb_rw hb_fm hO_a0 hK_a0 hAF21n30 ha_RW (by (try simp only [he161.eq, true_and, and_true]) <;> omega) (by rw [he161.eq, show (i2n30.toInt + 1).toNat = i2n30.toInt.toNat + 1 by omega]; exact (jbs_step (K := i2n30.toInt.toNat) (t := y42.toInt) (b := decide (y55.toInt = 1)) (by omega) (decide_eq_decide.mpr (by omega)) hb (fun z => absurd ((jlx_at (n := n.toInt.toNat) (i := i5n61.toInt.toNat) (F := (jim x1.toInt (fun q => (RW q).toInt) n.toInt.toNat y42.toInt (decide (y55.toInt = 1)))) (B := (fun q => (F21n30 q).toInt)) (by omega) (fun j hj => heq j (by omega)) (fun z => c87x z)).mp z) (fun z3 => by have z4 : (jim x1.toInt (fun q => (RW q).toInt) n.toInt.toNat y42.toInt (decide (y55.toInt = 1)) i5n61.toInt.toNat) < (F21n30 i5n61.toInt.toNat).toInt := z3; first | omega | (rw [hq86] at z4; omega))) (fun _ j _ => rfl))) (by (try simp only [he161.eq, true_and, and_true]) <;> omega)
                        · have c122x : (jim x1.toInt (fun q => (RW q).toInt) n.toInt.toNat y42.toInt (decide (y55.toInt = 1)) i5n61.toInt.toNat) < (F21n30 i5n61.toInt.toNat).toInt := by first | omega | (rw [hq86]; omega)
                          refine J_iload dX7_findForm_125 rfl ?_
                          refine J_istore dX7_findForm_127 rfl (by decide) ?_
                          have L129 : ∀ (N : Nat) (V : jH) (i6n129 : Int32) (F21n129 : Nat → Int32), WT V → jeff [.inl 21] V0 V → (jis V (.inr 5) a0) → (jis V (.inl 17) rw) → (jis V (.inl 21) fm) → (V a0 = some (.inr (5, fs_a0))) → (jokO V (jFs 5) fs_a0) → (V fm = some (.inl (21, 60, .inl F21n129))) → (V rw = some (.inl (17, 120, .inl RW))) → (i5n61.toInt ≤ i6n129.toInt ∧ i6n129.toInt ≤ n.toInt) → (∀ j : Nat, (j : Int) < i6n129.toInt → (F21n129 j).toInt = (jim x1.toInt (fun q => (RW q).toInt) n.toInt.toNat y42.toInt (decide (y55.toInt = 1)) j)) → (300 - i6n129.toInt).toNat < N → J tS mX7_findForm d 129 [some (.ref a0), some (.int x1), some (.int i2n30), some (.int y42), some (.int y55), some (.int i5n61), some (.int i6n129)] [] V 0 0 (fun r V => (jPost [.inl 21] V0 rV) r V ∧ (∃ F2 : Nat → Int32, V fm = some (.inl (21, 60, .inl F2)) ∧ ∀ j : Nat, j < n.toInt.toNat → (F2 j).toInt = jbs x1.toInt (fun q => (RW q).toInt) n.toInt.toNat (2 * jtur x1.toInt).toNat j)) := by
                            intro N
                            induction N with
                            | zero => intro V i6n129 F21n129 hW he ha0 hb_rw hb_fm hO_a0 hK_a0 hAF21n129 ha_RW hi6 hcp hm; exact absurd hm (Nat.not_lt_zero _)
                            | succ N ih =>
                              intro V i6n129 F21n129 hW he ha0 hb_rw hb_fm hO_a0 hK_a0 hAF21n129 ha_RW hi6 hcp hm
                              have ih129 := ih
                              have hri6 := j_rng i6n129
                              obtain ⟨hNF21n129, hvF21n129⟩ := WT_rngI (r := ((-2147483648), 2147483647)) hW id rfl hAF21n129
                              clear hNF21n129
                              refine J_iload dX7_findForm_129 rfl ?_
                              refine J_aload_n dX7_findForm_131 rfl ?_
                              refine J_get jf_X7_109 dX7_findForm_132 hO_a0 hF_n ?_
                              refine Jz_icmp_ge (tgt := 161) jEq.rf jEq.rf dX7_findForm_135 (by decide) (fun c135 => ?_) (fun c135 => ?_)
                              · refine Jz_iinc 1 dX7_findForm_161 rfl rfl (by decide) jEq.rf (by decide) (by omega) (by omega) (fun y161 he161 => ?_)
                                refine J_goto (tgt := 30) dX7_findForm_164 (by decide) ?_
                                refine J.mask [true, true, true, false, false, false, false] ?_
                                exact ih30 _ y161 F21n129 hW he ha0 hb_rw hb_fm hO_a0 hK_a0 hAF21n129 ha_RW (by (try simp only [he161.eq, true_and, and_true]) <;> omega) (by rw [he161.eq, show (i2n30.toInt + 1).toNat = i2n30.toInt.toNat + 1 by omega]; exact (jbs_step (K := i2n30.toInt.toNat) (t := y42.toInt) (b := decide (y55.toInt = 1)) (by omega) (decide_eq_decide.mpr (by omega)) hb (fun _ j hj => hcp j (by omega)) (fun z => absurd ((jlx_at (n := n.toInt.toNat) (i := i5n61.toInt.toNat) (F := (jim x1.toInt (fun q => (RW q).toInt) n.toInt.toNat y42.toInt (decide (y55.toInt = 1)))) (B := (fun q => (F21n30 q).toInt)) (by omega) (fun j hj => heq j (by omega)) (fun z => c87x z)).mpr (by have q := c122x; omega)) z))) (by (try simp only [he161.eq, true_and, and_true]) <;> omega)
                              · refine J_aload_n dX7_findForm_138 rfl ?_
                                refine J_get jf_X7_31 dX7_findForm_139 hO_a0 hF_fm ?_
                                refine J_iload dX7_findForm_142 rfl ?_
                                refine J_aload_n dX7_findForm_144 rfl ?_
                                refine J_iload_n dX7_findForm_145 rfl ?_
                                refine J_iload_n dX7_findForm_146 rfl ?_
                                refine J_iload dX7_findForm_147 rfl ?_
                                refine J_iload dX7_findForm_149 rfl ?_
                                refine Jw_callV4 (q9 := (RX7, TX7, 34)) moX7_tried jw_ml_X7_170 jw_im_X7_tried jw_se_X7_tried ha0 rfl rfl dX7_findForm_151 (w_X7_tried_z (d - 1) _ a0 x1 y42 y55 i6n129 n rw RW (by omega) hW  ha0 (by omega) (by omega) ⟨_, hO_a0, hF_n⟩ ⟨_, hO_a0, hF_rw⟩ ha_RW (by omega) (by omega) (by omega) (by omega) (by omega) (by omega) (by omega)) (by omega) (Nat.zero_le _) (Nat.zero_le _) (Nat.le_of_ble_eq_true rfl) (fun r151 V151 h151 => ?_)
                                obtain ⟨⟨y151, rfl, hl151, hh151, hP151_0⟩, hE151⟩ := h151
                                have hE151 := hE151.symm
                                subst hE151
                                clear hl151 hh151
                                have hz151 : jEq y151.toInt ((jim (x1.toInt) (fun q => (RW q).toInt) (n.toInt).toNat (y42.toInt) (decide ((y55.toInt) = 1)) (i6n129.toInt).toNat)) := hP151_0
                                clear hP151_0
                                have hjb := jim_b (g := x1.toInt) (t := y42.toInt) (T := (fun q => (RW q).toInt)) (n := n.toInt.toNat) (b := decide (y55.toInt = 1)) (by omega) (by omega) (fun q hq => hp3 q (by omega)) (i := i6n129.toInt.toNat) (by omega)
                                refine Jz_iast (r := ((-2147483648), 2147483647)) jEq.rf hz151 hW id dX7_findForm_154 hAF21n129 rfl rfl (by omega) (by omega) (by omega) (by omega) (fun V154 G154 hW hx154 hA154 hp154 ho154 => ?_)
                                obtain ⟨hN154, hv154⟩ := WT_rngI (r := ((-2147483648), 2147483647)) hW id rfl hA154
                                clear hN154
                                have he := he.trans (hx154.sub (jsub_of rfl))
                                have ha0 := ha0.mono hx154.1
                                have hb_rw := hb_rw.mono hx154.1
                                have hb_fm := hb_fm.mono hx154.1
                                have hO_a0 := hx154.2 _ _ hO_a0 (jnot_of rfl)
                                have hK_a0 := hK_a0.mono hx154.1
                                have ha_RW := hx154.2 _ _ ha_RW (jnot_of rfl)
                                refine Jz_iinc 1 dX7_findForm_155 rfl rfl (by decide) jEq.rf (by decide) (by omega) (by omega) (fun y155 he155 => ?_)
                                refine J_goto (tgt := 129) dX7_findForm_158 (by decide) ?_
                                refine J.mask [true, true, true, true, true, true, true] ?_
                                exact ih129 _ y155 G154 hW he ha0 hb_rw hb_fm hO_a0 hK_a0 hA154 ha_RW (by (try simp only [he155.eq, true_and, and_true]) <;> omega) (fun j hj => by rw [he155.eq] at hj; by_cases h9 : (j : Int) = i6n129.toInt; (have e : j = i6n129.toInt.toNat := by omega); subst e; rw [hp154, hz151.eq]; rw [ho154 j (by omega)]; exact hcp j (by omega)) (by (try simp only [he155.eq, true_and, and_true]) <;> omega)
                          refine J.mask [true, true, true, true, true, true, true] ?_
                          exact L129 _ _ i5n61 F21n30 hW he ha0 hb_rw hb_fm hO_a0 hK_a0 hAF21n30 ha_RW (by omega) (fun j hj => (heq j hj).symm) (Nat.lt_succ_self _)
                    · refine J_aload_n dX7_findForm_70 rfl ?_
                      refine J_iload_n dX7_findForm_71 rfl ?_
                      refine J_iload_n dX7_findForm_72 rfl ?_
                      refine J_iload dX7_findForm_73 rfl ?_
                      refine J_iload dX7_findForm_75 rfl ?_
                      refine Jw_callV4 (q9 := (RX7, TX7, 34)) moX7_tried jw_ml_X7_170 jw_im_X7_tried jw_se_X7_tried ha0 rfl rfl dX7_findForm_77 (w_X7_tried_z (d - 1) _ a0 x1 y42 y55 i5n61 n rw RW (by omega) hW  ha0 (by omega) (by omega) ⟨_, hO_a0, hF_n⟩ ⟨_, hO_a0, hF_rw⟩ ha_RW (by omega) (by omega) (by omega) (by omega) (by omega) (by omega) (by omega)) (by omega) (Nat.zero_le _) (Nat.zero_le _) (Nat.le_of_ble_eq_true rfl) (fun r77 V77 h77 => ?_)
                      obtain ⟨⟨y77, rfl, hl77, hh77, hP77_0⟩, hE77⟩ := h77
                      have hE77 := hE77.symm
                      subst hE77
                      clear hl77 hh77
                      have hz77 : jEq y77.toInt ((jim (x1.toInt) (fun q => (RW q).toInt) (n.toInt).toNat (y42.toInt) (decide ((y55.toInt) = 1)) (i5n61.toInt).toNat)) := hP77_0
                      clear hP77_0
                      refine J_aload_n dX7_findForm_80 rfl ?_
                      refine J_get jf_X7_31 dX7_findForm_81 hO_a0 hF_fm ?_
                      refine J_iload dX7_findForm_84 rfl ?_
                      refine Jz_iald (r := ((-2147483648), 2147483647)) jEq.rf dX7_findForm_86 hAF21n30 rfl hvF21n30 (by omega) (by omega) (fun y86 hf86 hl86 hh86 => ?_)
                      dsimp only at hl86 hh86
                      clear hl86 hh86
                      have hq86 : (F21n30 i5n61.toInt.toNat).toInt = y86.toInt := by rw [hf86]
                      refine Jz_icmp_ne (tgt := 96) hz77 jEq.rf dX7_findForm_87 (by decide) (fun c87 => ?_) (fun c87 => ?_)
                      · refine J_iload dX7_findForm_96 rfl ?_
                        refine J_aload_n dX7_findForm_98 rfl ?_
                        refine J_get jf_X7_109 dX7_findForm_99 hO_a0 hF_n ?_
                        refine Jz_icmp_ge (tgt := 161) jEq.rf jEq.rf dX7_findForm_102 (by decide) (fun c102 => ?_) (fun c102 => ?_)
                        · refine Jz_iinc 1 dX7_findForm_161 rfl rfl (by decide) jEq.rf (by decide) (by omega) (by omega) (fun y161 he161 => ?_)
                          refine J_goto (tgt := 30) dX7_findForm_164 (by decide) ?_
                          refine J.mask [true, true, true, false, false, false, false] ?_
                          exact ih30 _ y161 F21n30 hW he ha0 hb_rw hb_fm hO_a0 hK_a0 hAF21n30 ha_RW (by (try simp only [he161.eq, true_and, and_true]) <;> omega) (by rw [he161.eq, show (i2n30.toInt + 1).toNat = i2n30.toInt.toNat + 1 by omega]; exact (jbs_step (K := i2n30.toInt.toNat) (t := y42.toInt) (b := decide (y55.toInt = 1)) (by omega) (decide_eq_decide.mpr (by omega)) hb (fun z => absurd z (jlx_eq (fun j hj => heq j (by omega)))) (fun _ j _ => rfl))) (by (try simp only [he161.eq, true_and, and_true]) <;> omega)
                        · refine J_aload_n dX7_findForm_105 rfl ?_
                          refine J_iload_n dX7_findForm_106 rfl ?_
                          refine J_iload_n dX7_findForm_107 rfl ?_
                          refine J_iload dX7_findForm_108 rfl ?_
                          refine J_iload dX7_findForm_110 rfl ?_
                          have c87x : ¬ (jim x1.toInt (fun q => (RW q).toInt) n.toInt.toNat y42.toInt (decide (y55.toInt = 1)) i5n61.toInt.toNat) = (F21n30 i5n61.toInt.toNat).toInt := by first | omega | (rw [hq86]; omega)
                          refine Jw_callV4 (q9 := (RX7, TX7, 34)) moX7_tried jw_ml_X7_170 jw_im_X7_tried jw_se_X7_tried ha0 rfl rfl dX7_findForm_112 (w_X7_tried_z (d - 1) _ a0 x1 y42 y55 i5n61 n rw RW (by omega) hW  ha0 (by omega) (by omega) ⟨_, hO_a0, hF_n⟩ ⟨_, hO_a0, hF_rw⟩ ha_RW (by omega) (by omega) (by omega) (by omega) (by omega) (by omega) (by omega)) (by omega) (Nat.zero_le _) (Nat.zero_le _) (Nat.le_of_ble_eq_true rfl) (fun r112 V112 h112 => ?_)
                          obtain ⟨⟨y112, rfl, hl112, hh112, hP112_0⟩, hE112⟩ := h112
                          have hE112 := hE112.symm
                          subst hE112
                          clear hl112 hh112
                          have hz112 : jEq y112.toInt ((jim (x1.toInt) (fun q => (RW q).toInt) (n.toInt).toNat (y42.toInt) (decide ((y55.toInt) = 1)) (i5n61.toInt).toNat)) := hP112_0
                          clear hP112_0
                          refine J_aload_n dX7_findForm_115 rfl ?_
                          refine J_get jf_X7_31 dX7_findForm_116 hO_a0 hF_fm ?_
                          refine J_iload dX7_findForm_119 rfl ?_
                          refine Jz_iald (r := ((-2147483648), 2147483647)) jEq.rf dX7_findForm_121 hAF21n30 rfl hvF21n30 (by omega) (by omega) (fun y121 hf121 hl121 hh121 => ?_)
                          dsimp only at hl121 hh121
                          clear hl121 hh121
                          have he121 : jEq y121.toInt (y86.toInt) := by rw [← hf121, hf86]; exact jEq.rf
                          refine Jz_icmp_ge (tgt := 161) hz112 he121 dX7_findForm_122 (by decide) (fun c122 => ?_) (fun c122 => ?_)
                          · refine Jz_iinc 1 dX7_findForm_161 rfl rfl (by decide) jEq.rf (by decide) (by omega) (by omega) (fun y161 he161 => ?_)
                            refine J_goto (tgt := 30) dX7_findForm_164 (by decide) ?_
                            refine J.mask [true, true, true, false, false, false, false] ?_
                            exact ih30 _ y161 F21n30 hW he ha0 hb_rw hb_fm hO_a0 hK_a0 hAF21n30 ha_RW (by (try simp only [he161.eq, true_and, and_true]) <;> omega) (by rw [he161.eq, show (i2n30.toInt + 1).toNat = i2n30.toInt.toNat + 1 by omega]; exact (jbs_step (K := i2n30.toInt.toNat) (t := y42.toInt) (b := decide (y55.toInt = 1)) (by omega) (decide_eq_decide.mpr (by omega)) hb (fun z => absurd ((jlx_at (n := n.toInt.toNat) (i := i5n61.toInt.toNat) (F := (jim x1.toInt (fun q => (RW q).toInt) n.toInt.toNat y42.toInt (decide (y55.toInt = 1)))) (B := (fun q => (F21n30 q).toInt)) (by omega) (fun j hj => heq j (by omega)) (fun z => c87x z)).mp z) (fun z3 => by have z4 : (jim x1.toInt (fun q => (RW q).toInt) n.toInt.toNat y42.toInt (decide (y55.toInt = 1)) i5n61.toInt.toNat) < (F21n30 i5n61.toInt.toNat).toInt := z3; first | omega | (rw [hq86] at z4; omega))) (fun _ j _ => rfl))) (by (try simp only [he161.eq, true_and, and_true]) <;> omega)
                          · have c122x : (jim x1.toInt (fun q => (RW q).toInt) n.toInt.toNat y42.toInt (decide (y55.toInt = 1)) i5n61.toInt.toNat) < (F21n30 i5n61.toInt.toNat).toInt := by first | omega | (rw [hq86]; omega)
                            refine J_iload dX7_findForm_125 rfl ?_
                            refine J_istore dX7_findForm_127 rfl (by decide) ?_
                            have L129 : ∀ (N : Nat) (V : jH) (i6n129 : Int32) (F21n129 : Nat → Int32), WT V → jeff [.inl 21] V0 V → (jis V (.inr 5) a0) → (jis V (.inl 17) rw) → (jis V (.inl 21) fm) → (V a0 = some (.inr (5, fs_a0))) → (jokO V (jFs 5) fs_a0) → (V fm = some (.inl (21, 60, .inl F21n129))) → (V rw = some (.inl (17, 120, .inl RW))) → (i5n61.toInt ≤ i6n129.toInt ∧ i6n129.toInt ≤ n.toInt) → (∀ j : Nat, (j : Int) < i6n129.toInt → (F21n129 j).toInt = (jim x1.toInt (fun q => (RW q).toInt) n.toInt.toNat y42.toInt (decide (y55.toInt = 1)) j)) → (300 - i6n129.toInt).toNat < N → J tS mX7_findForm d 129 [some (.ref a0), some (.int x1), some (.int i2n30), some (.int y42), some (.int y55), some (.int i5n61), some (.int i6n129)] [] V 0 0 (fun r V => (jPost [.inl 21] V0 rV) r V ∧ (∃ F2 : Nat → Int32, V fm = some (.inl (21, 60, .inl F2)) ∧ ∀ j : Nat, j < n.toInt.toNat → (F2 j).toInt = jbs x1.toInt (fun q => (RW q).toInt) n.toInt.toNat (2 * jtur x1.toInt).toNat j)) := by
                              intro N
                              induction N with
                              | zero => intro V i6n129 F21n129 hW he ha0 hb_rw hb_fm hO_a0 hK_a0 hAF21n129 ha_RW hi6 hcp hm; exact absurd hm (Nat.not_lt_zero _)
                              | succ N ih =>
                                intro V i6n129 F21n129 hW he ha0 hb_rw hb_fm hO_a0 hK_a0 hAF21n129 ha_RW hi6 hcp hm
                                have ih129 := ih
                                have hri6 := j_rng i6n129
                                obtain ⟨hNF21n129, hvF21n129⟩ := WT_rngI (r := ((-2147483648), 2147483647)) hW id rfl hAF21n129
                                clear hNF21n129
                                refine J_iload dX7_findForm_129 rfl ?_
                                refine J_aload_n dX7_findForm_131 rfl ?_
                                refine J_get jf_X7_109 dX7_findForm_132 hO_a0 hF_n ?_
                                refine Jz_icmp_ge (tgt := 161) jEq.rf jEq.rf dX7_findForm_135 (by decide) (fun c135 => ?_) (fun c135 => ?_)
                                · refine Jz_iinc 1 dX7_findForm_161 rfl rfl (by decide) jEq.rf (by decide) (by omega) (by omega) (fun y161 he161 => ?_)
                                  refine J_goto (tgt := 30) dX7_findForm_164 (by decide) ?_
                                  refine J.mask [true, true, true, false, false, false, false] ?_
                                  exact ih30 _ y161 F21n129 hW he ha0 hb_rw hb_fm hO_a0 hK_a0 hAF21n129 ha_RW (by (try simp only [he161.eq, true_and, and_true]) <;> omega) (by rw [he161.eq, show (i2n30.toInt + 1).toNat = i2n30.toInt.toNat + 1 by omega]; exact (jbs_step (K := i2n30.toInt.toNat) (t := y42.toInt) (b := decide (y55.toInt = 1)) (by omega) (decide_eq_decide.mpr (by omega)) hb (fun _ j hj => hcp j (by omega)) (fun z => absurd ((jlx_at (n := n.toInt.toNat) (i := i5n61.toInt.toNat) (F := (jim x1.toInt (fun q => (RW q).toInt) n.toInt.toNat y42.toInt (decide (y55.toInt = 1)))) (B := (fun q => (F21n30 q).toInt)) (by omega) (fun j hj => heq j (by omega)) (fun z => c87x z)).mpr (by have q := c122x; omega)) z))) (by (try simp only [he161.eq, true_and, and_true]) <;> omega)
                                · refine J_aload_n dX7_findForm_138 rfl ?_
                                  refine J_get jf_X7_31 dX7_findForm_139 hO_a0 hF_fm ?_
                                  refine J_iload dX7_findForm_142 rfl ?_
                                  refine J_aload_n dX7_findForm_144 rfl ?_
                                  refine J_iload_n dX7_findForm_145 rfl ?_
                                  refine J_iload_n dX7_findForm_146 rfl ?_
                                  refine J_iload dX7_findForm_147 rfl ?_
                                  refine J_iload dX7_findForm_149 rfl ?_
                                  refine Jw_callV4 (q9 := (RX7, TX7, 34)) moX7_tried jw_ml_X7_170 jw_im_X7_tried jw_se_X7_tried ha0 rfl rfl dX7_findForm_151 (w_X7_tried_z (d - 1) _ a0 x1 y42 y55 i6n129 n rw RW (by omega) hW  ha0 (by omega) (by omega) ⟨_, hO_a0, hF_n⟩ ⟨_, hO_a0, hF_rw⟩ ha_RW (by omega) (by omega) (by omega) (by omega) (by omega) (by omega) (by omega)) (by omega) (Nat.zero_le _) (Nat.zero_le _) (Nat.le_of_ble_eq_true rfl) (fun r151 V151 h151 => ?_)
                                  obtain ⟨⟨y151, rfl, hl151, hh151, hP151_0⟩, hE151⟩ := h151
                                  have hE151 := hE151.symm
                                  subst hE151
                                  clear hl151 hh151
                                  have hz151 : jEq y151.toInt ((jim (x1.toInt) (fun q => (RW q).toInt) (n.toInt).toNat (y42.toInt) (decide ((y55.toInt) = 1)) (i6n129.toInt).toNat)) := hP151_0
                                  clear hP151_0
                                  have hjb := jim_b (g := x1.toInt) (t := y42.toInt) (T := (fun q => (RW q).toInt)) (n := n.toInt.toNat) (b := decide (y55.toInt = 1)) (by omega) (by omega) (fun q hq => hp3 q (by omega)) (i := i6n129.toInt.toNat) (by omega)
                                  refine Jz_iast (r := ((-2147483648), 2147483647)) jEq.rf hz151 hW id dX7_findForm_154 hAF21n129 rfl rfl (by omega) (by omega) (by omega) (by omega) (fun V154 G154 hW hx154 hA154 hp154 ho154 => ?_)
                                  obtain ⟨hN154, hv154⟩ := WT_rngI (r := ((-2147483648), 2147483647)) hW id rfl hA154
                                  clear hN154
                                  have he := he.trans (hx154.sub (jsub_of rfl))
                                  have ha0 := ha0.mono hx154.1
                                  have hb_rw := hb_rw.mono hx154.1
                                  have hb_fm := hb_fm.mono hx154.1
                                  have hO_a0 := hx154.2 _ _ hO_a0 (jnot_of rfl)
                                  have hK_a0 := hK_a0.mono hx154.1
                                  have ha_RW := hx154.2 _ _ ha_RW (jnot_of rfl)
                                  refine Jz_iinc 1 dX7_findForm_155 rfl rfl (by decide) jEq.rf (by decide) (by omega) (by omega) (fun y155 he155 => ?_)
                                  refine J_goto (tgt := 129) dX7_findForm_158 (by decide) ?_
                                  refine J.mask [true, true, true, true, true, true, true] ?_
                                  exact ih129 _ y155 G154 hW he ha0 hb_rw hb_fm hO_a0 hK_a0 hA154 ha_RW (by (try simp only [he155.eq, true_and, and_true]) <;> omega) (fun j hj => by rw [he155.eq] at hj; by_cases h9 : (j : Int) = i6n129.toInt; (have e : j = i6n129.toInt.toNat := by omega); subst e; rw [hp154, hz151.eq]; rw [ho154 j (by omega)]; exact hcp j (by omega)) (by (try simp only [he155.eq, true_and, and_true]) <;> omega)
                            refine J.mask [true, true, true, true, true, true, true] ?_
                            exact L129 _ _ i5n61 F21n30 hW he ha0 hb_rw hb_fm hO_a0 hK_a0 hAF21n30 ha_RW (by omega) (fun j hj => (heq j hj).symm) (Nat.lt_succ_self _)
                      · refine Jz_iinc 1 dX7_findForm_90 rfl rfl (by decide) jEq.rf (by decide) (by omega) (by omega) (fun y90 he90 => ?_)
                        refine J_goto (tgt := 61) dX7_findForm_93 (by decide) ?_
                        refine J.mask [true, true, true, true, true, true, false] ?_
                        exact ih61  y90  (by (try simp only [he90.eq, true_and, and_true]) <;> omega) (fun j hj => by rw [he90.eq] at hj; by_cases h9 : (j : Int) = i5n61.toInt; (have e : j = i5n61.toInt.toNat := by omega); subst e; rw [hf86]; omega; exact heq j (by omega)) (by (try simp only [he90.eq, true_and, and_true]) <;> omega)
                refine J.mask [true, true, true, true, true, true, false] ?_
                exact L61 _  y58    (by (try simp only [he58.eq, true_and, and_true]) <;> omega) (fun j hj => by rw [he58.eq] at hj; omega) (Nat.lt_succ_self _)
              · refine Jz_iconst 1 dX7_findForm_51 (by decide) (fun y51 he51 => ?_)
                have hoq51 : y51.toInt = 1 := he51.eq
                refine J_goto (tgt := 56) dX7_findForm_52 (by decide) ?_
                refine J_istore dX7_findForm_56 rfl (by decide) ?_
                refine Jz_iconst 0 dX7_findForm_58 (by decide) (fun y58 he58 => ?_)
                refine J_istore dX7_findForm_59 rfl (by decide) ?_
                have L61 : ∀ (N : Nat) (i5n61 : Int32), (0 ≤ i5n61.toInt ∧ i5n61.toInt ≤ n.toInt) → (∀ j : Nat, (j : Int) < i5n61.toInt → (jim x1.toInt (fun q => (RW q).toInt) n.toInt.toNat y42.toInt (decide (y51.toInt = 1)) j) = (F21n30 j).toInt) → (300 - i5n61.toInt).toNat < N → J tS mX7_findForm d 61 [some (.ref a0), some (.int x1), some (.int i2n30), some (.int y42), some (.int y51), some (.int i5n61), none] [] V 0 0 (fun r V => (jPost [.inl 21] V0 rV) r V ∧ (∃ F2 : Nat → Int32, V fm = some (.inl (21, 60, .inl F2)) ∧ ∀ j : Nat, j < n.toInt.toNat → (F2 j).toInt = jbs x1.toInt (fun q => (RW q).toInt) n.toInt.toNat (2 * jtur x1.toInt).toNat j)) := by
                  intro N
                  induction N with
                  | zero => intro i5n61  hi5 heq hm; exact absurd hm (Nat.not_lt_zero _)
                  | succ N ih =>
                    intro i5n61  hi5 heq hm
                    have ih61 := ih
                    have hri5 := j_rng i5n61
                    refine J_iload dX7_findForm_61 rfl ?_
                    refine J_aload_n dX7_findForm_63 rfl ?_
                    refine J_get jf_X7_109 dX7_findForm_64 hO_a0 hF_n ?_
                    refine Jz_icmp_ge (tgt := 96) jEq.rf jEq.rf dX7_findForm_67 (by decide) (fun c67 => ?_) (fun c67 => ?_)
                    · refine J_iload dX7_findForm_96 rfl ?_
                      refine J_aload_n dX7_findForm_98 rfl ?_
                      refine J_get jf_X7_109 dX7_findForm_99 hO_a0 hF_n ?_
                      refine Jz_icmp_ge (tgt := 161) jEq.rf jEq.rf dX7_findForm_102 (by decide) (fun c102 => ?_) (fun c102 => ?_)
                      · refine Jz_iinc 1 dX7_findForm_161 rfl rfl (by decide) jEq.rf (by decide) (by omega) (by omega) (fun y161 he161 => ?_)
                        refine J_goto (tgt := 30) dX7_findForm_164 (by decide) ?_
                        refine J.mask [true, true, true, false, false, false, false] ?_
                        exact ih30 _ y161 F21n30 hW he ha0 hb_rw hb_fm hO_a0 hK_a0 hAF21n30 ha_RW (by (try simp only [he161.eq, true_and, and_true]) <;> omega) (by rw [he161.eq, show (i2n30.toInt + 1).toNat = i2n30.toInt.toNat + 1 by omega]; exact (jbs_step (K := i2n30.toInt.toNat) (t := y42.toInt) (b := decide (y51.toInt = 1)) (by omega) (decide_eq_decide.mpr (by omega)) hb (fun z => absurd z (jlx_eq (fun j hj => heq j (by omega)))) (fun _ j _ => rfl))) (by (try simp only [he161.eq, true_and, and_true]) <;> omega)
                      · refine J_aload_n dX7_findForm_105 rfl ?_
                        refine J_iload_n dX7_findForm_106 rfl ?_
                        refine J_iload_n dX7_findForm_107 rfl ?_
                        refine J_iload dX7_findForm_108 rfl ?_
                        refine J_iload dX7_findForm_110 rfl ?_
                        have c87x : ¬ (jim x1.toInt (fun q => (RW q).toInt) n.toInt.toNat y42.toInt (decide (y51.toInt = 1)) i5n61.toInt.toNat) = (F21n30 i5n61.toInt.toNat).toInt := by first | omega | (rw [hq86]; omega)
                        refine Jw_callV4 (q9 := (RX7, TX7, 34)) moX7_tried jw_ml_X7_170 jw_im_X7_tried jw_se_X7_tried ha0 rfl rfl dX7_findForm_112 (w_X7_tried_z (d - 1) _ a0 x1 y42 y51 i5n61 n rw RW (by omega) hW  ha0 (by omega) (by omega) ⟨_, hO_a0, hF_n⟩ ⟨_, hO_a0, hF_rw⟩ ha_RW (by omega) (by omega) (by omega) (by omega) (by omega) (by omega) (by omega)) (by omega) (Nat.zero_le _) (Nat.zero_le _) (Nat.le_of_ble_eq_true rfl) (fun r112 V112 h112 => ?_)
                        obtain ⟨⟨y112, rfl, hl112, hh112, hP112_0⟩, hE112⟩ := h112
                        have hE112 := hE112.symm
                        subst hE112
                        clear hl112 hh112
                        have hz112 : jEq y112.toInt ((jim (x1.toInt) (fun q => (RW q).toInt) (n.toInt).toNat (y42.toInt) (decide ((y51.toInt) = 1)) (i5n61.toInt).toNat)) := hP112_0
                        clear hP112_0
                        refine J_aload_n dX7_findForm_115 rfl ?_
                        refine J_get jf_X7_31 dX7_findForm_116 hO_a0 hF_fm ?_
                        refine J_iload dX7_findForm_119 rfl ?_
                        refine Jz_iald (r := ((-2147483648), 2147483647)) jEq.rf dX7_findForm_121 hAF21n30 rfl hvF21n30 (by omega) (by omega) (fun y121 hf121 hl121 hh121 => ?_)
                        dsimp only at hl121 hh121
                        clear hl121 hh121
                        refine Jz_icmp_ge (tgt := 161) hz112 jEq.rf dX7_findForm_122 (by decide) (fun c122 => ?_) (fun c122 => ?_)
                        · refine Jz_iinc 1 dX7_findForm_161 rfl rfl (by decide) jEq.rf (by decide) (by omega) (by omega) (fun y161 he161 => ?_)
                          refine J_goto (tgt := 30) dX7_findForm_164 (by decide) ?_
                          refine J.mask [true, true, true, false, false, false, false] ?_
                          exact ih30 _ y161 F21n30 hW he ha0 hb_rw hb_fm hO_a0 hK_a0 hAF21n30 ha_RW (by (try simp only [he161.eq, true_and, and_true]) <;> omega) (by rw [he161.eq, show (i2n30.toInt + 1).toNat = i2n30.toInt.toNat + 1 by omega]; exact (jbs_step (K := i2n30.toInt.toNat) (t := y42.toInt) (b := decide (y51.toInt = 1)) (by omega) (decide_eq_decide.mpr (by omega)) hb (fun z => absurd ((jlx_at (n := n.toInt.toNat) (i := i5n61.toInt.toNat) (F := (jim x1.toInt (fun q => (RW q).toInt) n.toInt.toNat y42.toInt (decide (y51.toInt = 1)))) (B := (fun q => (F21n30 q).toInt)) (by omega) (fun j hj => heq j (by omega)) (fun z => c87x z)).mp z) (fun z3 => by have z4 : (jim x1.toInt (fun q => (RW q).toInt) n.toInt.toNat y42.toInt (decide (y51.toInt = 1)) i5n61.toInt.toNat) < (F21n30 i5n61.toInt.toNat).toInt := z3; first | omega | (rw [hq86] at z4; omega))) (fun _ j _ => rfl))) (by (try simp only [he161.eq, true_and, and_true]) <;> omega)
                        · have c122x : (jim x1.toInt (fun q => (RW q).toInt) n.toInt.toNat y42.toInt (decide (y51.toInt = 1)) i5n61.toInt.toNat) < (F21n30 i5n61.toInt.toNat).toInt := by first | omega | (rw [hq86]; omega)
                          refine J_iload dX7_findForm_125 rfl ?_
                          refine J_istore dX7_findForm_127 rfl (by decide) ?_
                          have L129 : ∀ (N : Nat) (V : jH) (i6n129 : Int32) (F21n129 : Nat → Int32), WT V → jeff [.inl 21] V0 V → (jis V (.inr 5) a0) → (jis V (.inl 17) rw) → (jis V (.inl 21) fm) → (V a0 = some (.inr (5, fs_a0))) → (jokO V (jFs 5) fs_a0) → (V fm = some (.inl (21, 60, .inl F21n129))) → (V rw = some (.inl (17, 120, .inl RW))) → (i5n61.toInt ≤ i6n129.toInt ∧ i6n129.toInt ≤ n.toInt) → (∀ j : Nat, (j : Int) < i6n129.toInt → (F21n129 j).toInt = (jim x1.toInt (fun q => (RW q).toInt) n.toInt.toNat y42.toInt (decide (y51.toInt = 1)) j)) → (300 - i6n129.toInt).toNat < N → J tS mX7_findForm d 129 [some (.ref a0), some (.int x1), some (.int i2n30), some (.int y42), some (.int y51), some (.int i5n61), some (.int i6n129)] [] V 0 0 (fun r V => (jPost [.inl 21] V0 rV) r V ∧ (∃ F2 : Nat → Int32, V fm = some (.inl (21, 60, .inl F2)) ∧ ∀ j : Nat, j < n.toInt.toNat → (F2 j).toInt = jbs x1.toInt (fun q => (RW q).toInt) n.toInt.toNat (2 * jtur x1.toInt).toNat j)) := by
                            intro N
                            induction N with
                            | zero => intro V i6n129 F21n129 hW he ha0 hb_rw hb_fm hO_a0 hK_a0 hAF21n129 ha_RW hi6 hcp hm; exact absurd hm (Nat.not_lt_zero _)
                            | succ N ih =>
                              intro V i6n129 F21n129 hW he ha0 hb_rw hb_fm hO_a0 hK_a0 hAF21n129 ha_RW hi6 hcp hm
                              have ih129 := ih
                              have hri6 := j_rng i6n129
                              obtain ⟨hNF21n129, hvF21n129⟩ := WT_rngI (r := ((-2147483648), 2147483647)) hW id rfl hAF21n129
                              clear hNF21n129
                              refine J_iload dX7_findForm_129 rfl ?_
                              refine J_aload_n dX7_findForm_131 rfl ?_
                              refine J_get jf_X7_109 dX7_findForm_132 hO_a0 hF_n ?_
                              refine Jz_icmp_ge (tgt := 161) jEq.rf jEq.rf dX7_findForm_135 (by decide) (fun c135 => ?_) (fun c135 => ?_)
                              · refine Jz_iinc 1 dX7_findForm_161 rfl rfl (by decide) jEq.rf (by decide) (by omega) (by omega) (fun y161 he161 => ?_)
                                refine J_goto (tgt := 30) dX7_findForm_164 (by decide) ?_
                                refine J.mask [true, true, true, false, false, false, false] ?_
                                exact ih30 _ y161 F21n129 hW he ha0 hb_rw hb_fm hO_a0 hK_a0 hAF21n129 ha_RW (by (try simp only [he161.eq, true_and, and_true]) <;> omega) (by rw [he161.eq, show (i2n30.toInt + 1).toNat = i2n30.toInt.toNat + 1 by omega]; exact (jbs_step (K := i2n30.toInt.toNat) (t := y42.toInt) (b := decide (y51.toInt = 1)) (by omega) (decide_eq_decide.mpr (by omega)) hb (fun _ j hj => hcp j (by omega)) (fun z => absurd ((jlx_at (n := n.toInt.toNat) (i := i5n61.toInt.toNat) (F := (jim x1.toInt (fun q => (RW q).toInt) n.toInt.toNat y42.toInt (decide (y51.toInt = 1)))) (B := (fun q => (F21n30 q).toInt)) (by omega) (fun j hj => heq j (by omega)) (fun z => c87x z)).mpr (by have q := c122x; omega)) z))) (by (try simp only [he161.eq, true_and, and_true]) <;> omega)
                              · refine J_aload_n dX7_findForm_138 rfl ?_
                                refine J_get jf_X7_31 dX7_findForm_139 hO_a0 hF_fm ?_
                                refine J_iload dX7_findForm_142 rfl ?_
                                refine J_aload_n dX7_findForm_144 rfl ?_
                                refine J_iload_n dX7_findForm_145 rfl ?_
                                refine J_iload_n dX7_findForm_146 rfl ?_
                                refine J_iload dX7_findForm_147 rfl ?_
                                refine J_iload dX7_findForm_149 rfl ?_
                                refine Jw_callV4 (q9 := (RX7, TX7, 34)) moX7_tried jw_ml_X7_170 jw_im_X7_tried jw_se_X7_tried ha0 rfl rfl dX7_findForm_151 (w_X7_tried_z (d - 1) _ a0 x1 y42 y51 i6n129 n rw RW (by omega) hW  ha0 (by omega) (by omega) ⟨_, hO_a0, hF_n⟩ ⟨_, hO_a0, hF_rw⟩ ha_RW (by omega) (by omega) (by omega) (by omega) (by omega) (by omega) (by omega)) (by omega) (Nat.zero_le _) (Nat.zero_le _) (Nat.le_of_ble_eq_true rfl) (fun r151 V151 h151 => ?_)
                                obtain ⟨⟨y151, rfl, hl151, hh151, hP151_0⟩, hE151⟩ := h151
                                have hE151 := hE151.symm
                                subst hE151
                                clear hl151 hh151
                                have hz151 : jEq y151.toInt ((jim (x1.toInt) (fun q => (RW q).toInt) (n.toInt).toNat (y42.toInt) (decide ((y51.toInt) = 1)) (i6n129.toInt).toNat)) := hP151_0
                                clear hP151_0
                                have hjb := jim_b (g := x1.toInt) (t := y42.toInt) (T := (fun q => (RW q).toInt)) (n := n.toInt.toNat) (b := decide (y51.toInt = 1)) (by omega) (by omega) (fun q hq => hp3 q (by omega)) (i := i6n129.toInt.toNat) (by omega)
                                refine Jz_iast (r := ((-2147483648), 2147483647)) jEq.rf hz151 hW id dX7_findForm_154 hAF21n129 rfl rfl (by omega) (by omega) (by omega) (by omega) (fun V154 G154 hW hx154 hA154 hp154 ho154 => ?_)
                                obtain ⟨hN154, hv154⟩ := WT_rngI (r := ((-2147483648), 2147483647)) hW id rfl hA154
                                clear hN154
                                have he := he.trans (hx154.sub (jsub_of rfl))
                                have ha0 := ha0.mono hx154.1
                                have hb_rw := hb_rw.mono hx154.1
                                have hb_fm := hb_fm.mono hx154.1
                                have hO_a0 := hx154.2 _ _ hO_a0 (jnot_of rfl)
                                have hK_a0 := hK_a0.mono hx154.1
                                have ha_RW := hx154.2 _ _ ha_RW (jnot_of rfl)
                                refine Jz_iinc 1 dX7_findForm_155 rfl rfl (by decide) jEq.rf (by decide) (by omega) (by omega) (fun y155 he155 => ?_)
                                refine J_goto (tgt := 129) dX7_findForm_158 (by decide) ?_
                                refine J.mask [true, true, true, true, true, true, true] ?_
                                exact ih129 _ y155 G154 hW he ha0 hb_rw hb_fm hO_a0 hK_a0 hA154 ha_RW (by (try simp only [he155.eq, true_and, and_true]) <;> omega) (fun j hj => by rw [he155.eq] at hj; by_cases h9 : (j : Int) = i6n129.toInt; (have e : j = i6n129.toInt.toNat := by omega); subst e; rw [hp154, hz151.eq]; rw [ho154 j (by omega)]; exact hcp j (by omega)) (by (try simp only [he155.eq, true_and, and_true]) <;> omega)
                          refine J.mask [true, true, true, true, true, true, true] ?_
                          exact L129 _ _ i5n61 F21n30 hW he ha0 hb_rw hb_fm hO_a0 hK_a0 hAF21n30 ha_RW (by omega) (fun j hj => (heq j hj).symm) (Nat.lt_succ_self _)
                    · refine J_aload_n dX7_findForm_70 rfl ?_
                      refine J_iload_n dX7_findForm_71 rfl ?_
                      refine J_iload_n dX7_findForm_72 rfl ?_
                      refine J_iload dX7_findForm_73 rfl ?_
                      refine J_iload dX7_findForm_75 rfl ?_
                      refine Jw_callV4 (q9 := (RX7, TX7, 34)) moX7_tried jw_ml_X7_170 jw_im_X7_tried jw_se_X7_tried ha0 rfl rfl dX7_findForm_77 (w_X7_tried_z (d - 1) _ a0 x1 y42 y51 i5n61 n rw RW (by omega) hW  ha0 (by omega) (by omega) ⟨_, hO_a0, hF_n⟩ ⟨_, hO_a0, hF_rw⟩ ha_RW (by omega) (by omega) (by omega) (by omega) (by omega) (by omega) (by omega)) (by omega) (Nat.zero_le _) (Nat.zero_le _) (Nat.le_of_ble_eq_true rfl) (fun r77 V77 h77 => ?_)
                      obtain ⟨⟨y77, rfl, hl77, hh77, hP77_0⟩, hE77⟩ := h77
                      have hE77 := hE77.symm
                      subst hE77
                      clear hl77 hh77
                      have hz77 : jEq y77.toInt ((jim (x1.toInt) (fun q => (RW q).toInt) (n.toInt).toNat (y42.toInt) (decide ((y51.toInt) = 1)) (i5n61.toInt).toNat)) := hP77_0
                      clear hP77_0
                      refine J_aload_n dX7_findForm_80 rfl ?_
                      refine J_get jf_X7_31 dX7_findForm_81 hO_a0 hF_fm ?_
                      refine J_iload dX7_findForm_84 rfl ?_
                      refine Jz_iald (r := ((-2147483648), 2147483647)) jEq.rf dX7_findForm_86 hAF21n30 rfl hvF21n30 (by omega) (by omega) (fun y86 hf86 hl86 hh86 => ?_)
                      dsimp only at hl86 hh86
                      clear hl86 hh86
                      have hq86 : (F21n30 i5n61.toInt.toNat).toInt = y86.toInt := by rw [hf86]
                      refine Jz_icmp_ne (tgt := 96) hz77 jEq.rf dX7_findForm_87 (by decide) (fun c87 => ?_) (fun c87 => ?_)
                      · refine J_iload dX7_findForm_96 rfl ?_
                        refine J_aload_n dX7_findForm_98 rfl ?_
                        refine J_get jf_X7_109 dX7_findForm_99 hO_a0 hF_n ?_
                        refine Jz_icmp_ge (tgt := 161) jEq.rf jEq.rf dX7_findForm_102 (by decide) (fun c102 => ?_) (fun c102 => ?_)
                        · refine Jz_iinc 1 dX7_findForm_161 rfl rfl (by decide) jEq.rf (by decide) (by omega) (by omega) (fun y161 he161 => ?_)
                          refine J_goto (tgt := 30) dX7_findForm_164 (by decide) ?_
                          refine J.mask [true, true, true, false, false, false, false] ?_
                          exact ih30 _ y161 F21n30 hW he ha0 hb_rw hb_fm hO_a0 hK_a0 hAF21n30 ha_RW (by (try simp only [he161.eq, true_and, and_true]) <;> omega) (by rw [he161.eq, show (i2n30.toInt + 1).toNat = i2n30.toInt.toNat + 1 by omega]; exact (jbs_step (K := i2n30.toInt.toNat) (t := y42.toInt) (b := decide (y51.toInt = 1)) (by omega) (decide_eq_decide.mpr (by omega)) hb (fun z => absurd z (jlx_eq (fun j hj => heq j (by omega)))) (fun _ j _ => rfl))) (by (try simp only [he161.eq, true_and, and_true]) <;> omega)
                        · refine J_aload_n dX7_findForm_105 rfl ?_
                          refine J_iload_n dX7_findForm_106 rfl ?_
                          refine J_iload_n dX7_findForm_107 rfl ?_
                          refine J_iload dX7_findForm_108 rfl ?_
                          refine J_iload dX7_findForm_110 rfl ?_
                          have c87x : ¬ (jim x1.toInt (fun q => (RW q).toInt) n.toInt.toNat y42.toInt (decide (y51.toInt = 1)) i5n61.toInt.toNat) = (F21n30 i5n61.toInt.toNat).toInt := by first | omega | (rw [hq86]; omega)
                          refine Jw_callV4 (q9 := (RX7, TX7, 34)) moX7_tried jw_ml_X7_170 jw_im_X7_tried jw_se_X7_tried ha0 rfl rfl dX7_findForm_112 (w_X7_tried_z (d - 1) _ a0 x1 y42 y51 i5n61 n rw RW (by omega) hW  ha0 (by omega) (by omega) ⟨_, hO_a0, hF_n⟩ ⟨_, hO_a0, hF_rw⟩ ha_RW (by omega) (by omega) (by omega) (by omega) (by omega) (by omega) (by omega)) (by omega) (Nat.zero_le _) (Nat.zero_le _) (Nat.le_of_ble_eq_true rfl) (fun r112 V112 h112 => ?_)
                          obtain ⟨⟨y112, rfl, hl112, hh112, hP112_0⟩, hE112⟩ := h112
                          have hE112 := hE112.symm
                          subst hE112
                          clear hl112 hh112
                          have hz112 : jEq y112.toInt ((jim (x1.toInt) (fun q => (RW q).toInt) (n.toInt).toNat (y42.toInt) (decide ((y51.toInt) = 1)) (i5n61.toInt).toNat)) := hP112_0
                          clear hP112_0
                          refine J_aload_n dX7_findForm_115 rfl ?_
                          refine J_get jf_X7_31 dX7_findForm_116 hO_a0 hF_fm ?_
                          refine J_iload dX7_findForm_119 rfl ?_
                          refine Jz_iald (r := ((-2147483648), 2147483647)) jEq.rf dX7_findForm_121 hAF21n30 rfl hvF21n30 (by omega) (by omega) (fun y121 hf121 hl121 hh121 => ?_)
                          dsimp only at hl121 hh121
                          clear hl121 hh121
                          have he121 : jEq y121.toInt (y86.toInt) := by rw [← hf121, hf86]; exact jEq.rf
                          refine Jz_icmp_ge (tgt := 161) hz112 he121 dX7_findForm_122 (by decide) (fun c122 => ?_) (fun c122 => ?_)
                          · refine Jz_iinc 1 dX7_findForm_161 rfl rfl (by decide) jEq.rf (by decide) (by omega) (by omega) (fun y161 he161 => ?_)
                            refine J_goto (tgt := 30) dX7_findForm_164 (by decide) ?_
                            refine J.mask [true, true, true, false, false, false, false] ?_
                            exact ih30 _ y161 F21n30 hW he ha0 hb_rw hb_fm hO_a0 hK_a0 hAF21n30 ha_RW (by (try simp only [he161.eq, true_and, and_true]) <;> omega) (by rw [he161.eq, show (i2n30.toInt + 1).toNat = i2n30.toInt.toNat + 1 by omega]; exact (jbs_step (K := i2n30.toInt.toNat) (t := y42.toInt) (b := decide (y51.toInt = 1)) (by omega) (decide_eq_decide.mpr (by omega)) hb (fun z => absurd ((jlx_at (n := n.toInt.toNat) (i := i5n61.toInt.toNat) (F := (jim x1.toInt (fun q => (RW q).toInt) n.toInt.toNat y42.toInt (decide (y51.toInt = 1)))) (B := (fun q => (F21n30 q).toInt)) (by omega) (fun j hj => heq j (by omega)) (fun z => c87x z)).mp z) (fun z3 => by have z4 : (jim x1.toInt (fun q => (RW q).toInt) n.toInt.toNat y42.toInt (decide (y51.toInt = 1)) i5n61.toInt.toNat) < (F21n30 i5n61.toInt.toNat).toInt := z3; first | omega | (rw [hq86] at z4; omega))) (fun _ j _ => rfl))) (by (try simp only [he161.eq, true_and, and_true]) <;> omega)
                          · have c122x : (jim x1.toInt (fun q => (RW q).toInt) n.toInt.toNat y42.toInt (decide (y51.toInt = 1)) i5n61.toInt.toNat) < (F21n30 i5n61.toInt.toNat).toInt := by first | omega | (rw [hq86]; omega)
                            refine J_iload dX7_findForm_125 rfl ?_
                            refine J_istore dX7_findForm_127 rfl (by decide) ?_
                            have L129 : ∀ (N : Nat) (V : jH) (i6n129 : Int32) (F21n129 : Nat → Int32), WT V → jeff [.inl 21] V0 V → (jis V (.inr 5) a0) → (jis V (.inl 17) rw) → (jis V (.inl 21) fm) → (V a0 = some (.inr (5, fs_a0))) → (jokO V (jFs 5) fs_a0) → (V fm = some (.inl (21, 60, .inl F21n129))) → (V rw = some (.inl (17, 120, .inl RW))) → (i5n61.toInt ≤ i6n129.toInt ∧ i6n129.toInt ≤ n.toInt) → (∀ j : Nat, (j : Int) < i6n129.toInt → (F21n129 j).toInt = (jim x1.toInt (fun q => (RW q).toInt) n.toInt.toNat y42.toInt (decide (y51.toInt = 1)) j)) → (300 - i6n129.toInt).toNat < N → J tS mX7_findForm d 129 [some (.ref a0), some (.int x1), some (.int i2n30), some (.int y42), some (.int y51), some (.int i5n61), some (.int i6n129)] [] V 0 0 (fun r V => (jPost [.inl 21] V0 rV) r V ∧ (∃ F2 : Nat → Int32, V fm = some (.inl (21, 60, .inl F2)) ∧ ∀ j : Nat, j < n.toInt.toNat → (F2 j).toInt = jbs x1.toInt (fun q => (RW q).toInt) n.toInt.toNat (2 * jtur x1.toInt).toNat j)) := by
                              intro N
                              induction N with
                              | zero => intro V i6n129 F21n129 hW he ha0 hb_rw hb_fm hO_a0 hK_a0 hAF21n129 ha_RW hi6 hcp hm; exact absurd hm (Nat.not_lt_zero _)
                              | succ N ih =>
                                intro V i6n129 F21n129 hW he ha0 hb_rw hb_fm hO_a0 hK_a0 hAF21n129 ha_RW hi6 hcp hm
                                have ih129 := ih
                                have hri6 := j_rng i6n129
                                obtain ⟨hNF21n129, hvF21n129⟩ := WT_rngI (r := ((-2147483648), 2147483647)) hW id rfl hAF21n129
                                clear hNF21n129
                                refine J_iload dX7_findForm_129 rfl ?_
                                refine J_aload_n dX7_findForm_131 rfl ?_
                                refine J_get jf_X7_109 dX7_findForm_132 hO_a0 hF_n ?_
                                refine Jz_icmp_ge (tgt := 161) jEq.rf jEq.rf dX7_findForm_135 (by decide) (fun c135 => ?_) (fun c135 => ?_)
                                · refine Jz_iinc 1 dX7_findForm_161 rfl rfl (by decide) jEq.rf (by decide) (by omega) (by omega) (fun y161 he161 => ?_)
                                  refine J_goto (tgt := 30) dX7_findForm_164 (by decide) ?_
                                  refine J.mask [true, true, true, false, false, false, false] ?_
                                  exact ih30 _ y161 F21n129 hW he ha0 hb_rw hb_fm hO_a0 hK_a0 hAF21n129 ha_RW (by (try simp only [he161.eq, true_and, and_true]) <;> omega) (by rw [he161.eq, show (i2n30.toInt + 1).toNat = i2n30.toInt.toNat + 1 by omega]; exact (jbs_step (K := i2n30.toInt.toNat) (t := y42.toInt) (b := decide (y51.toInt = 1)) (by omega) (decide_eq_decide.mpr (by omega)) hb (fun _ j hj => hcp j (by omega)) (fun z => absurd ((jlx_at (n := n.toInt.toNat) (i := i5n61.toInt.toNat) (F := (jim x1.toInt (fun q => (RW q).toInt) n.toInt.toNat y42.toInt (decide (y51.toInt = 1)))) (B := (fun q => (F21n30 q).toInt)) (by omega) (fun j hj => heq j (by omega)) (fun z => c87x z)).mpr (by have q := c122x; omega)) z))) (by (try simp only [he161.eq, true_and, and_true]) <;> omega)
                                · refine J_aload_n dX7_findForm_138 rfl ?_
                                  refine J_get jf_X7_31 dX7_findForm_139 hO_a0 hF_fm ?_
                                  refine J_iload dX7_findForm_142 rfl ?_
                                  refine J_aload_n dX7_findForm_144 rfl ?_
                                  refine J_iload_n dX7_findForm_145 rfl ?_
                                  refine J_iload_n dX7_findForm_146 rfl ?_
                                  refine J_iload dX7_findForm_147 rfl ?_
                                  refine J_iload dX7_findForm_149 rfl ?_
                                  refine Jw_callV4 (q9 := (RX7, TX7, 34)) moX7_tried jw_ml_X7_170 jw_im_X7_tried jw_se_X7_tried ha0 rfl rfl dX7_findForm_151 (w_X7_tried_z (d - 1) _ a0 x1 y42 y51 i6n129 n rw RW (by omega) hW  ha0 (by omega) (by omega) ⟨_, hO_a0, hF_n⟩ ⟨_, hO_a0, hF_rw⟩ ha_RW (by omega) (by omega) (by omega) (by omega) (by omega) (by omega) (by omega)) (by omega) (Nat.zero_le _) (Nat.zero_le _) (Nat.le_of_ble_eq_true rfl) (fun r151 V151 h151 => ?_)
                                  obtain ⟨⟨y151, rfl, hl151, hh151, hP151_0⟩, hE151⟩ := h151
                                  have hE151 := hE151.symm
                                  subst hE151
                                  clear hl151 hh151
                                  have hz151 : jEq y151.toInt ((jim (x1.toInt) (fun q => (RW q).toInt) (n.toInt).toNat (y42.toInt) (decide ((y51.toInt) = 1)) (i6n129.toInt).toNat)) := hP151_0
                                  clear hP151_0
                                  have hjb := jim_b (g := x1.toInt) (t := y42.toInt) (T := (fun q => (RW q).toInt)) (n := n.toInt.toNat) (b := decide (y51.toInt = 1)) (by omega) (by omega) (fun q hq => hp3 q (by omega)) (i := i6n129.toInt.toNat) (by omega)
                                  refine Jz_iast (r := ((-2147483648), 2147483647)) jEq.rf hz151 hW id dX7_findForm_154 hAF21n129 rfl rfl (by omega) (by omega) (by omega) (by omega) (fun V154 G154 hW hx154 hA154 hp154 ho154 => ?_)
                                  obtain ⟨hN154, hv154⟩ := WT_rngI (r := ((-2147483648), 2147483647)) hW id rfl hA154
                                  clear hN154
                                  have he := he.trans (hx154.sub (jsub_of rfl))
                                  have ha0 := ha0.mono hx154.1
                                  have hb_rw := hb_rw.mono hx154.1
                                  have hb_fm := hb_fm.mono hx154.1
                                  have hO_a0 := hx154.2 _ _ hO_a0 (jnot_of rfl)
                                  have hK_a0 := hK_a0.mono hx154.1
                                  have ha_RW := hx154.2 _ _ ha_RW (jnot_of rfl)
                                  refine Jz_iinc 1 dX7_findForm_155 rfl rfl (by decide) jEq.rf (by decide) (by omega) (by omega) (fun y155 he155 => ?_)
                                  refine J_goto (tgt := 129) dX7_findForm_158 (by decide) ?_
                                  refine J.mask [true, true, true, true, true, true, true] ?_
                                  exact ih129 _ y155 G154 hW he ha0 hb_rw hb_fm hO_a0 hK_a0 hA154 ha_RW (by (try simp only [he155.eq, true_and, and_true]) <;> omega) (fun j hj => by rw [he155.eq] at hj; by_cases h9 : (j : Int) = i6n129.toInt; (have e : j = i6n129.toInt.toNat := by omega); subst e; rw [hp154, hz151.eq]; rw [ho154 j (by omega)]; exact hcp j (by omega)) (by (try simp only [he155.eq, true_and, and_true]) <;> omega)
                            refine J.mask [true, true, true, true, true, true, true] ?_
                            exact L129 _ _ i5n61 F21n30 hW he ha0 hb_rw hb_fm hO_a0 hK_a0 hAF21n30 ha_RW (by omega) (fun j hj => (heq j hj).symm) (Nat.lt_succ_self _)
                      · refine Jz_iinc 1 dX7_findForm_90 rfl rfl (by decide) jEq.rf (by decide) (by omega) (by omega) (fun y90 he90 => ?_)
                        refine J_goto (tgt := 61) dX7_findForm_93 (by decide) ?_
                        refine J.mask [true, true, true, true, true, true, false] ?_
                        exact ih61  y90  (by (try simp only [he90.eq, true_and, and_true]) <;> omega) (fun j hj => by rw [he90.eq] at hj; by_cases h9 : (j : Int) = i5n61.toInt; (have e : j = i5n61.toInt.toNat := by omega); subst e; rw [hf86]; omega; exact heq j (by omega)) (by (try simp only [he90.eq, true_and, and_true]) <;> omega)
                refine J.mask [true, true, true, true, true, true, false] ?_
                exact L61 _  y58    (by (try simp only [he58.eq, true_and, and_true]) <;> omega) (fun j hj => by rw [he58.eq] at hj; omega) (Nat.lt_succ_self _)
        refine J.mask [true, true, true, false, false, false, false] ?_
        exact L30 _ _ y28 F21n2 hW he ha0 hb_rw hb_fm hO_a0 hK_a0 hAF21n2 ha_RW (by rw [he28.eq]; omega) (fun j hj => by rw [he28.eq]; exact hc j (by omega)) (Nat.lt_succ_self _)
      · refine J_aload_n dX7_findForm_10 rfl ?_
        refine J_get jf_X7_31 dX7_findForm_11 hO_a0 hF_fm ?_
        refine J_iload_n dX7_findForm_14 rfl ?_
        refine J_aload_n dX7_findForm_15 rfl ?_
        refine J_get jf_X7_19 dX7_findForm_16 hO_a0 hF_rw ?_
        refine J_iload_n dX7_findForm_19 rfl ?_
        refine Jz_iald (r := ((-2147483648), 2147483647)) jEq.rf dX7_findForm_20 ha_RW rfl hv_RW (by omega) (by omega) (fun y20 hf20 hl20 hh20 => ?_)
        dsimp only at hl20 hh20
        clear hl20 hh20
        refine Jz_iast (r := ((-2147483648), 2147483647)) jEq.rf jEq.rf hW id dX7_findForm_21 hAF21n2 rfl rfl (by omega) (by omega) (j_rng _).1 (j_rng _).2 (fun V21 G21 hW hx21 hA21 hp21 ho21 => ?_)
        obtain ⟨hN21, hv21⟩ := WT_rngI (r := ((-2147483648), 2147483647)) hW id rfl hA21
        clear hN21
        have he := he.trans (hx21.sub (jsub_of rfl))
        have ha0 := ha0.mono hx21.1
        have hb_rw := hb_rw.mono hx21.1
        have hb_fm := hb_fm.mono hx21.1
        have hO_a0 := hx21.2 _ _ hO_a0 (jnot_of rfl)
        have hK_a0 := hK_a0.mono hx21.1
        have ha_RW := hx21.2 _ _ ha_RW (jnot_of rfl)
        refine Jz_iinc 1 dX7_findForm_22 rfl rfl (by decide) jEq.rf (by decide) (by omega) (by omega) (fun y22 he22 => ?_)
        refine J_goto (tgt := 2) dX7_findForm_25 (by decide) ?_
        refine J.mask [true, true, true, false, false, false, false] ?_
        exact ih2 _ y22 G21 hW he ha0 hb_rw hb_fm hO_a0 hK_a0 hA21 ha_RW (by (try simp only [he22.eq, true_and, and_true]) <;> omega) (fun j hj => by rw [he22.eq] at hj; by_cases h9 : (j : Int) = i2n2.toInt; (have e : j = i2n2.toInt.toNat := by omega); subst e; rw [hp21, hf20]; rw [ho21 j (by omega)]; exact hc j (by omega)) (by (try simp only [he22.eq, true_and, and_true]) <;> omega)
  refine J.mask [true, true, true, false, false, false, false] ?_
  exact L2 _ _ y0 FM hW he ha0 hb_rw hb_fm hO_a0 hK_a0 ha_FM ha_RW (by (try simp only [he0.eq, true_and, and_true]) <;> omega) (fun j hj => by rw [he0.eq] at hj; omega) (Nat.lt_succ_self _)
set_option maxRecDepth 100000 in
set_option maxHeartbeats 8000000 in
theorem w_X7_alike_bad {tS : jTS} (d : Nat) (V0 : jH) (a0 : Nat) (x1 : Int32) (x2 : Int32) (v0 : Int32) (gr : Nat) (mn : Nat) (sp : Nat) (rw : Nat) (px : Nat) (py : Nat) (pz : Nat) (GA : Nat → Int32) (MN : Nat → Int32) (SP : Nat → Int32) (RW : Nat → Int32) (PX : Nat → Int32) (PY : Nat → Int32) (PZ : Nat → Int32) (hd : 4 ≤ d) (hW : WT V0) (ha0 : jis V0 (.inr 5) a0) (hf_v0 : jfI V0 a0 5 0 v0) (hr_gr : jfR V0 a0 5 1 gr) (hr_mn : jfR V0 a0 5 2 mn) (hr_sp : jfR V0 a0 5 3 sp) (hr_rw : jfR V0 a0 5 4 rw) (hr_px : jfR V0 a0 5 6 px) (hr_py : jfR V0 a0 5 7 py) (hr_pz : jfR V0 a0 5 8 pz) (ha_GA : V0 gr = some (.inl (14, 16, .inl GA))) (ha_MN : V0 mn = some (.inl (15, 16, .inl MN))) (ha_SP : V0 sp = some (.inl (16, 960, .inl SP))) (ha_RW : V0 rw = some (.inl (17, 120, .inl RW))) (ha_PX : V0 px = some (.inl (18, 121, .inl PX))) (ha_PY : V0 py = some (.inl (19, 121, .inl PY))) (ha_PZ : V0 pz = some (.inl (20, 121, .inl PZ))) (hp0 : ¬ (0 ≤ x1.toInt ∧ x1.toInt < v0.toInt ∧ 0 ≤ x2.toInt ∧ x2.toInt < v0.toInt)) : jTot tS mX7_alike d [.ref a0, .int x1, .int x2] V0 0 0 (fun r V => (fun r _ => ∃ y : Int32, r = some (.int y) ∧ ((-2147483648) ≤ y.toInt) ∧ (y.toInt ≤ 2147483647) ∧ (y.toInt = -2)) r V ∧ V = V0) := by
  refine jTot.of_J [some (.ref a0), some (.int x1), some (.int x2), none, none, none] moX7_alike (Nat.le_of_ble_eq_true rfl) rfl ?_
  have hrx1 := j_rng x1
  have hrx2 := j_rng x2
  have he : jeff [] V0 V0 := jeff.refl _ _
  obtain ⟨fs_a0, hO_a0, hK_a0⟩ := WT_obj hW id ha0
  have hF_v0 := hf_v0.get hO_a0
  have hrv0 : 0 ≤ v0.toInt ∧ v0.toInt ≤ 16 := jok_rngI hK_a0 rfl hF_v0
  have hF_gr := hr_gr.get hO_a0
  obtain ⟨w_gr, hFq_gr, b_gr, hbq_gr, hb_gr⟩ := hK_a0.2 1 (.inr (some (.inl 14))) rfl
  cases hF_gr.symm.trans (hFq_gr.trans (congrArg some hbq_gr))
  have hF_mn := hr_mn.get hO_a0
  obtain ⟨w_mn, hFq_mn, b_mn, hbq_mn, hb_mn⟩ := hK_a0.2 2 (.inr (some (.inl 15))) rfl
  cases hF_mn.symm.trans (hFq_mn.trans (congrArg some hbq_mn))
  have hF_sp := hr_sp.get hO_a0
  obtain ⟨w_sp, hFq_sp, b_sp, hbq_sp, hb_sp⟩ := hK_a0.2 3 (.inr (some (.inl 16))) rfl
  cases hF_sp.symm.trans (hFq_sp.trans (congrArg some hbq_sp))
  have hF_rw := hr_rw.get hO_a0
  obtain ⟨w_rw, hFq_rw, b_rw, hbq_rw, hb_rw⟩ := hK_a0.2 4 (.inr (some (.inl 17))) rfl
  cases hF_rw.symm.trans (hFq_rw.trans (congrArg some hbq_rw))
  have hF_px := hr_px.get hO_a0
  obtain ⟨w_px, hFq_px, b_px, hbq_px, hb_px⟩ := hK_a0.2 6 (.inr (some (.inl 18))) rfl
  cases hF_px.symm.trans (hFq_px.trans (congrArg some hbq_px))
  have hF_py := hr_py.get hO_a0
  obtain ⟨w_py, hFq_py, b_py, hbq_py, hb_py⟩ := hK_a0.2 7 (.inr (some (.inl 19))) rfl
  cases hF_py.symm.trans (hFq_py.trans (congrArg some hbq_py))
  have hF_pz := hr_pz.get hO_a0
  obtain ⟨w_pz, hFq_pz, b_pz, hbq_pz, hb_pz⟩ := hK_a0.2 8 (.inr (some (.inl 20))) rfl
  cases hF_pz.symm.trans (hFq_pz.trans (congrArg some hbq_pz))
  obtain ⟨hN_GA, hv_GA⟩ := WT_rngI (r := (0, 3)) hW id rfl ha_GA
  clear hN_GA
  obtain ⟨hN_MN, hv_MN⟩ := WT_rngI (r := (0, 60)) hW id rfl ha_MN
  clear hN_MN
  obtain ⟨hN_SP, hv_SP⟩ := WT_rngI (r := ((-2147483648), 2147483647)) hW id rfl ha_SP
  clear hN_SP
  obtain ⟨hN_RW, hv_RW⟩ := WT_rngI (r := ((-2147483648), 2147483647)) hW id rfl ha_RW
  clear hN_RW
  obtain ⟨hN_PX, hv_PX⟩ := WT_rngI (r := ((-2147483648), 2147483647)) hW id rfl ha_PX
  clear hN_PX
  obtain ⟨hN_PY, hv_PY⟩ := WT_rngI (r := ((-2147483648), 2147483647)) hW id rfl ha_PY
  clear hN_PY
  obtain ⟨hN_PZ, hv_PZ⟩ := WT_rngI (r := ((-2147483648), 2147483647)) hW id rfl ha_PZ
  clear hN_PZ
  refine J_aload_n dX7_alike_0 rfl ?_
  refine J_iload_n dX7_alike_1 rfl ?_
  refine Jw_callV1 (q9 := (RX7, TX7, 34)) moX7_isWalk jw_ml_X7_130 jw_im_X7_isWalk jw_se_X7_isWalk ha0 rfl rfl dX7_alike_2 (w_X7_isWalk_z (d - 1) _ a0 x1 v0 (by omega) hW  ha0 ⟨_, hO_a0, hF_v0⟩) (by omega) (Nat.zero_le _) (Nat.zero_le _) (Nat.le_of_ble_eq_true rfl) (fun r2 V2 h2 => ?_)
  obtain ⟨⟨y2, rfl, hl2, hh2, hP2_0⟩, hE2⟩ := h2
  have hE2 := hE2.symm
  subst hE2
  refine Jz_if_eq (tgt := 16) jEq.rf dX7_alike_5 (by decide) (fun c5 => ?_) (fun c5 => ?_)
  · refine Jz_bipush (-2) dX7_alike_16 (by decide) (fun y16 he16 => ?_)
    exact J_ret (r := some (.int _)) dX7_alike_18 ⟨rfl, _, rfl, rfl⟩ (⟨⟨_, rfl, (j_rng _).1, (j_rng _).2, (by (try simp only [he16.eq, true_and, and_true]) <;> omega)⟩, rfl⟩)
  · refine J_aload_n dX7_alike_8 rfl ?_
    refine J_iload_n dX7_alike_9 rfl ?_
    refine Jw_callV1 (q9 := (RX7, TX7, 34)) moX7_isWalk jw_ml_X7_130 jw_im_X7_isWalk jw_se_X7_isWalk ha0 rfl rfl dX7_alike_10 (w_X7_isWalk_z (d - 1) _ a0 x2 v0 (by omega) hW  ha0 ⟨_, hO_a0, hF_v0⟩) (by omega) (Nat.zero_le _) (Nat.zero_le _) (Nat.le_of_ble_eq_true rfl) (fun r10 V10 h10 => ?_)
    obtain ⟨⟨y10, rfl, hl10, hh10, hP10_0⟩, hE10⟩ := h10
    have hE10 := hE10.symm
    subst hE10
    refine Jz_if_ne (tgt := 19) jEq.rf dX7_alike_13 (by decide) (fun c13 => ?_) (fun c13 => ?_)
    · exact False.elim (by omega)
    · refine Jz_bipush (-2) dX7_alike_16 (by decide) (fun y16 he16 => ?_)
      exact J_ret (r := some (.int _)) dX7_alike_18 ⟨rfl, _, rfl, rfl⟩ (⟨⟨_, rfl, (j_rng _).1, (j_rng _).2, (by (try simp only [he16.eq, true_and, and_true]) <;> omega)⟩, rfl⟩)
set_option maxRecDepth 100000 in
set_option maxHeartbeats 8000000 in
theorem w_X7_alike_dif {tS : jTS} (d : Nat) (V0 : jH) (a0 : Nat) (x1 : Int32) (x2 : Int32) (v0 : Int32) (gr : Nat) (mn : Nat) (sp : Nat) (rw : Nat) (px : Nat) (py : Nat) (pz : Nat) (GA : Nat → Int32) (MN : Nat → Int32) (SP : Nat → Int32) (RW : Nat → Int32) (PX : Nat → Int32) (PY : Nat → Int32) (PZ : Nat → Int32) (hd : 4 ≤ d) (hW : WT V0) (ha0 : jis V0 (.inr 5) a0) (hf_v0 : jfI V0 a0 5 0 v0) (hr_gr : jfR V0 a0 5 1 gr) (hr_mn : jfR V0 a0 5 2 mn) (hr_sp : jfR V0 a0 5 3 sp) (hr_rw : jfR V0 a0 5 4 rw) (hr_px : jfR V0 a0 5 6 px) (hr_py : jfR V0 a0 5 7 py) (hr_pz : jfR V0 a0 5 8 pz) (ha_GA : V0 gr = some (.inl (14, 16, .inl GA))) (ha_MN : V0 mn = some (.inl (15, 16, .inl MN))) (ha_SP : V0 sp = some (.inl (16, 960, .inl SP))) (ha_RW : V0 rw = some (.inl (17, 120, .inl RW))) (ha_PX : V0 px = some (.inl (18, 121, .inl PX))) (ha_PY : V0 py = some (.inl (19, 121, .inl PY))) (ha_PZ : V0 pz = some (.inl (20, 121, .inl PZ))) (hp0 : 0 ≤ x1.toInt) (hp1 : x1.toInt < v0.toInt) (hp2 : 0 ≤ x2.toInt) (hp3 : x2.toInt < v0.toInt) (hp4 : ¬ (GA x1.toInt.toNat).toInt = (GA x2.toInt.toNat).toInt) : jTot tS mX7_alike d [.ref a0, .int x1, .int x2] V0 0 0 (fun r V => (fun r _ => ∃ y : Int32, r = some (.int y) ∧ ((-2147483648) ≤ y.toInt) ∧ (y.toInt ≤ 2147483647) ∧ (y.toInt = -3)) r V ∧ V = V0) := by
  refine jTot.of_J [some (.ref a0), some (.int x1), some (.int x2), none, none, none] moX7_alike (Nat.le_of_ble_eq_true rfl) rfl ?_
  have hrx1 := j_rng x1
  have hrx2 := j_rng x2
  have he : jeff [] V0 V0 := jeff.refl _ _
  obtain ⟨fs_a0, hO_a0, hK_a0⟩ := WT_obj hW id ha0
  have hF_v0 := hf_v0.get hO_a0
  have hrv0 : 0 ≤ v0.toInt ∧ v0.toInt ≤ 16 := jok_rngI hK_a0 rfl hF_v0
  have hF_gr := hr_gr.get hO_a0
  obtain ⟨w_gr, hFq_gr, b_gr, hbq_gr, hb_gr⟩ := hK_a0.2 1 (.inr (some (.inl 14))) rfl
  cases hF_gr.symm.trans (hFq_gr.trans (congrArg some hbq_gr))
  have hF_mn := hr_mn.get hO_a0
  obtain ⟨w_mn, hFq_mn, b_mn, hbq_mn, hb_mn⟩ := hK_a0.2 2 (.inr (some (.inl 15))) rfl
  cases hF_mn.symm.trans (hFq_mn.trans (congrArg some hbq_mn))
  have hF_sp := hr_sp.get hO_a0
  obtain ⟨w_sp, hFq_sp, b_sp, hbq_sp, hb_sp⟩ := hK_a0.2 3 (.inr (some (.inl 16))) rfl
  cases hF_sp.symm.trans (hFq_sp.trans (congrArg some hbq_sp))
  have hF_rw := hr_rw.get hO_a0
  obtain ⟨w_rw, hFq_rw, b_rw, hbq_rw, hb_rw⟩ := hK_a0.2 4 (.inr (some (.inl 17))) rfl
  cases hF_rw.symm.trans (hFq_rw.trans (congrArg some hbq_rw))
  have hF_px := hr_px.get hO_a0
  obtain ⟨w_px, hFq_px, b_px, hbq_px, hb_px⟩ := hK_a0.2 6 (.inr (some (.inl 18))) rfl
  cases hF_px.symm.trans (hFq_px.trans (congrArg some hbq_px))
  have hF_py := hr_py.get hO_a0
  obtain ⟨w_py, hFq_py, b_py, hbq_py, hb_py⟩ := hK_a0.2 7 (.inr (some (.inl 19))) rfl
  cases hF_py.symm.trans (hFq_py.trans (congrArg some hbq_py))
  have hF_pz := hr_pz.get hO_a0
  obtain ⟨w_pz, hFq_pz, b_pz, hbq_pz, hb_pz⟩ := hK_a0.2 8 (.inr (some (.inl 20))) rfl
  cases hF_pz.symm.trans (hFq_pz.trans (congrArg some hbq_pz))
  obtain ⟨hN_GA, hv_GA⟩ := WT_rngI (r := (0, 3)) hW id rfl ha_GA
  clear hN_GA
  obtain ⟨hN_MN, hv_MN⟩ := WT_rngI (r := (0, 60)) hW id rfl ha_MN
  clear hN_MN
  obtain ⟨hN_SP, hv_SP⟩ := WT_rngI (r := ((-2147483648), 2147483647)) hW id rfl ha_SP
  clear hN_SP
  obtain ⟨hN_RW, hv_RW⟩ := WT_rngI (r := ((-2147483648), 2147483647)) hW id rfl ha_RW
  clear hN_RW
  obtain ⟨hN_PX, hv_PX⟩ := WT_rngI (r := ((-2147483648), 2147483647)) hW id rfl ha_PX
  clear hN_PX
  obtain ⟨hN_PY, hv_PY⟩ := WT_rngI (r := ((-2147483648), 2147483647)) hW id rfl ha_PY
  clear hN_PY
  obtain ⟨hN_PZ, hv_PZ⟩ := WT_rngI (r := ((-2147483648), 2147483647)) hW id rfl ha_PZ
  clear hN_PZ
  refine J_aload_n dX7_alike_0 rfl ?_
  refine J_iload_n dX7_alike_1 rfl ?_
  refine Jw_callV1 (q9 := (RX7, TX7, 34)) moX7_isWalk jw_ml_X7_130 jw_im_X7_isWalk jw_se_X7_isWalk ha0 rfl rfl dX7_alike_2 (w_X7_isWalk_z (d - 1) _ a0 x1 v0 (by omega) hW  ha0 ⟨_, hO_a0, hF_v0⟩) (by omega) (Nat.zero_le _) (Nat.zero_le _) (Nat.le_of_ble_eq_true rfl) (fun r2 V2 h2 => ?_)
  obtain ⟨⟨y2, rfl, hl2, hh2, hP2_0⟩, hE2⟩ := h2
  have hE2 := hE2.symm
  subst hE2
  refine Jz_if_eq (tgt := 16) jEq.rf dX7_alike_5 (by decide) (fun c5 => ?_) (fun c5 => ?_)
  · exact False.elim (by omega)
  · refine J_aload_n dX7_alike_8 rfl ?_
    refine J_iload_n dX7_alike_9 rfl ?_
    refine Jw_callV1 (q9 := (RX7, TX7, 34)) moX7_isWalk jw_ml_X7_130 jw_im_X7_isWalk jw_se_X7_isWalk ha0 rfl rfl dX7_alike_10 (w_X7_isWalk_z (d - 1) _ a0 x2 v0 (by omega) hW  ha0 ⟨_, hO_a0, hF_v0⟩) (by omega) (Nat.zero_le _) (Nat.zero_le _) (Nat.le_of_ble_eq_true rfl) (fun r10 V10 h10 => ?_)
    obtain ⟨⟨y10, rfl, hl10, hh10, hP10_0⟩, hE10⟩ := h10
    have hE10 := hE10.symm
    subst hE10
    refine Jz_if_ne (tgt := 19) jEq.rf dX7_alike_13 (by decide) (fun c13 => ?_) (fun c13 => ?_)
    · refine J_aload_n dX7_alike_19 rfl ?_
      refine J_get jf_X7_7 dX7_alike_20 hO_a0 hF_gr ?_
      refine J_iload_n dX7_alike_23 rfl ?_
      refine Jz_iald (r := (0, 3)) jEq.rf dX7_alike_24 ha_GA rfl hv_GA (by omega) (by omega) (fun y24 hf24 hl24 hh24 => ?_)
      dsimp only at hl24 hh24
      have hq24 : (GA x1.toInt.toNat).toInt = y24.toInt := by rw [hf24]
      refine J_aload_n dX7_alike_25 rfl ?_
      refine J_get jf_X7_7 dX7_alike_26 hO_a0 hF_gr ?_
      refine J_iload_n dX7_alike_29 rfl ?_
      refine Jz_iald (r := (0, 3)) jEq.rf dX7_alike_30 ha_GA rfl hv_GA (by omega) (by omega) (fun y30 hf30 hl30 hh30 => ?_)
      dsimp only at hl30 hh30
      have hq30 : (GA x2.toInt.toNat).toInt = y30.toInt := by rw [hf30]
      refine Jz_icmp_eq (tgt := 37) jEq.rf jEq.rf dX7_alike_31 (by decide) (fun c31 => ?_) (fun c31 => ?_)
      · exact False.elim (by omega)
      · refine Jz_bipush (-3) dX7_alike_34 (by decide) (fun y34 he34 => ?_)
        exact J_ret (r := some (.int _)) dX7_alike_36 ⟨rfl, _, rfl, rfl⟩ (⟨⟨_, rfl, (j_rng _).1, (j_rng _).2, (by (try simp only [he34.eq, true_and, and_true]) <;> omega)⟩, rfl⟩)
    · exact False.elim (by omega)
