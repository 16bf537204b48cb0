set_option maxRecDepth 100000 in
set_option maxHeartbeats 8000000 in
theorem w_X2_score_z {tS : jTS} (d : Nat) (V0 : jH) (a0 : Nat) (x1 : Int32) (x2 : Int32) (w1 : Int32) (h1 : Int32) (rc : Int32) (aw : Int32) (fw : Int32) (sp : Int32) (wb : Nat) (WB : Nat → Int32) (hd : 1 ≤ d) (hW : WT V0) (ha0 : jis V0 (.inr 0) a0) (hf_w1 : jfI V0 a0 0 1 w1) (hf_h1 : jfI V0 a0 0 2 h1) (hf_rc : jfI V0 a0 0 4 rc) (hf_aw : jfI V0 a0 0 5 aw) (hf_fw : jfI V0 a0 0 6 fw) (hf_sp : jfI V0 a0 0 8 sp) (hr_wb : jfR V0 a0 0 0 wb) (ha_WB : V0 wb = some (.inl (12, 36, .inl WB))) (hp0 : 0 ≤ x1.toInt) (hp1 : x1.toInt ≤ 35) (hp2 : 0 ≤ aw.toInt) (hp3 : aw.toInt ≤ 600000) (hp4 : 0 ≤ fw.toInt) (hp5 : fw.toInt ≤ 600000) (hp6 : 0 ≤ (WB x1.toInt.toNat).toInt) (hp7 : (WB x1.toInt.toNat).toInt ≤ 600000) : jTot tS mX2_score d [.ref a0, .int x1, .int x2] V0 0 0 (fun r V => (jPost [.inr 0, .inl 12] V0 rV) r V ∧ (∃ (WB2 : Nat → Int32) (aw2 fw2 : Int32), V wb = some (.inl (12, 36, .inl WB2)) ∧ jfI V a0 0 5 aw2 ∧ jfI V a0 0 6 fw2 ∧ aw2.toInt = aw.toInt + 1 ∧ ((¬ x2.toInt = 0 ∧ fw2.toInt = fw.toInt + 1) ∨ (x2.toInt = 0 ∧ fw2.toInt = fw.toInt)) ∧ (WB2 x1.toInt.toNat).toInt = (WB x1.toInt.toNat).toInt + 1 ∧ ∀ j : Nat, j ≠ x1.toInt.toNat → WB2 j = WB j) ∧ jkc 0 [1, 2, 3] V0 V ∧ jfp [a0, wb] V0 V ∧ (∃ w12 : Int32, jfI V a0 0 1 w12 ∧ (w12.toInt = w1.toInt)) ∧ (∃ h12 : Int32, jfI V a0 0 2 h12 ∧ (h12.toInt = h1.toInt)) ∧ (∃ rc2 : Int32, jfI V a0 0 4 rc2 ∧ (rc2.toInt = rc.toInt)) ∧ (∃ sp2 : Int32, jfI V a0 0 8 sp2 ∧ (sp2.toInt = sp.toInt))) := by
  refine jTot.of_J [some (.ref a0), some (.int x1), some (.int x2)] moX2_score (Nat.le_of_ble_eq_true rfl) rfl ?_
  have hrx1 := j_rng x1
  have hrx2 := j_rng x2
  have he : jeff [.inr 0, .inl 12] V0 V0 := jeff.refl _ _
  have hkp : jkc 0 [1, 2, 3] V0 V0 := jkc.rf
  have hfp : jfp [a0, wb] V0 V0 := jfp.rf
  obtain ⟨fs_a0, hO_a0, hK_a0⟩ := WT_obj hW id ha0
  have hF_w1 := hf_w1.get hO_a0
  have hrw1 : (-2147483648) ≤ w1.toInt ∧ w1.toInt ≤ 2147483647 := jok_rngI hK_a0 rfl hF_w1
  have hF_h1 := hf_h1.get hO_a0
  have hrh1 : (-2147483648) ≤ h1.toInt ∧ h1.toInt ≤ 2147483647 := jok_rngI hK_a0 rfl hF_h1
  have hF_rc := hf_rc.get hO_a0
  have hrrc : (-2147483648) ≤ rc.toInt ∧ rc.toInt ≤ 2147483647 := jok_rngI hK_a0 rfl hF_rc
  have hF_aw := hf_aw.get hO_a0
  have hraw : (-2147483648) ≤ aw.toInt ∧ aw.toInt ≤ 2147483647 := jok_rngI hK_a0 rfl hF_aw
  have hF_fw := hf_fw.get hO_a0
  have hrfw : (-2147483648) ≤ fw.toInt ∧ fw.toInt ≤ 2147483647 := jok_rngI hK_a0 rfl hF_fw
  have hF_sp := hf_sp.get hO_a0
  have hrsp : 0 ≤ sp.toInt ∧ sp.toInt ≤ 1 := jok_rngI hK_a0 rfl hF_sp
  have hF_wb := hr_wb.get hO_a0
  obtain ⟨w_wb, hFq_wb, b_wb, hbq_wb, hb_wb⟩ := hK_a0.2 0 (.inr (some (.inl 12))) rfl
  cases hF_wb.symm.trans (hFq_wb.trans (congrArg some hbq_wb))
  obtain ⟨hN_WB, hv_WB⟩ := WT_rngI (r := ((-2147483648), 2147483647)) hW id rfl ha_WB
  clear hN_WB
  refine J_aload_n dX2_score_0 rfl ?_
  refine J_dup dX2_score_1 rfl ?_
  refine J_get jf_X2_29 dX2_score_2 hO_a0 hF_aw ?_
  refine Jz_iconst 1 dX2_score_5 (by decide) (fun y5 he5 => ?_)
  refine Jz_iadd jEq.rf he5 dX2_score_6 (by omega) (by omega) (fun y6 he6 => ?_)
  refine Jz_putI hO_a0 hW id rfl jf_X2_29 jt_X2_5 he6 dX2_score_7 (by omega) (by omega) (fun _ _ => ⟨rfl, rfl⟩) (fun V7 fs7 hW hx7 hO7 hS7 hT7 hB7 => ?_)
  have hK7 : jokO _ (jFs 0) fs7 := hW _ _ id hO7
  have hF7_1 := (hT7 1 (by decide)).trans hF_w1
  have hF7_2 := (hT7 2 (by decide)).trans hF_h1
  have hF7_4 := (hT7 4 (by decide)).trans hF_rc
  have hF7_6 := (hT7 6 (by decide)).trans hF_fw
  have hF7_8 := (hT7 8 (by decide)).trans hF_sp
  have hF7_0 := (hT7 0 (by decide)).trans hF_wb
  have he := he.trans (hx7.sub (jsub_of rfl))
  have hkp := hkp.trans (jkc.put hO_a0 hO7 hT7 hB7 (by decide))
  have hfp := hfp.trans (jfp.one hB7 List.mem_cons_self)
  have ha0 := ha0.mono hx7.1
  have hb_wb := hb_wb.mono hx7.1
  have ha_WB := hx7.2 _ _ ha_WB (jnot_of rfl)
  refine J_iload_n dX2_score_10 rfl ?_
  refine Jz_if_eq (tgt := 24) jEq.rf dX2_score_11 (by decide) (fun c11 => ?_) (fun c11 => ?_)
  · refine J_aload_n dX2_score_24 rfl ?_
    refine J_get jf_X2_11 dX2_score_25 hO7 hF7_0 ?_
    refine J_iload_n dX2_score_28 rfl ?_
    refine J_aload_n dX2_score_29 rfl ?_
    refine J_get jf_X2_11 dX2_score_30 hO7 hF7_0 ?_
    refine J_iload_n dX2_score_33 rfl ?_
    refine J_callSN2 moX6_cell (host := "WalkGrounds") (List.mem_of_getElem? (i := 8) rfl) jw_st_X6_cell dX2_score_34 (w_X6_cell_x (d - 1) _ wb x1 ha_WB (WT_rngI (r := (-2147483648, 2147483647)) hW id rfl ha_WB).1 rfl (by omega) (by omega)) (by omega) (Nat.zero_le _) (Nat.zero_le _) (Nat.le_of_ble_eq_true rfl) (fun r34 V34 h34 => ?_)
    obtain ⟨⟨y34, rfl, hf34⟩, hE34⟩ := h34
    have hE34 := hE34.symm
    subst hE34
    have hz34 : jEq y34.toInt (WB (x1.toInt).toNat).toInt := by rw [← hf34]; rfl
    clear hf34
    · refine Jz_iconst 1 dX2_score_37 (by decide) (fun y37 he37 => ?_)
      refine Jz_iadd hz34 he37 dX2_score_38 (by omega) (by omega) (fun y38 he38 => ?_)
      refine J_callSN3 moX6_put (host := "WalkGrounds") (List.mem_of_getElem? (i := 9) rfl) jw_st_X6_put dX2_score_39 (w_X6_put_z (d - 1) _ wb x1 y38 hW ha_WB (WT_rngI (r := (-2147483648, 2147483647)) hW id rfl ha_WB).1 rfl rfl (by omega)) (by omega) (Nat.zero_le _) (Nat.zero_le _) (Nat.le_of_ble_eq_true rfl) (fun r39 V39 h39 => ?_)
      obtain ⟨rfl, hW, hx39, hB39, G39, hA39, hp39, ho39⟩ := h39
      obtain ⟨hN39, hv39⟩ := WT_rngI (r := (-2147483648, 2147483647)) hW id rfl hA39
      clear hN39
      have he := he.trans (hx39.sub (jsub_of rfl))
      have hkp := hkp.trans (jkc.of hx39 (jnot_of rfl))
      have hfp := hfp.trans (jfp.one hB39 (List.mem_cons_of_mem _ List.mem_cons_self))
      have ha0 := ha0.mono hx39.1
      have hb_wb := hb_wb.mono hx39.1
      have hO7 := hx39.2 _ _ hO7 (jnot_of rfl)
      have hK7 := hK7.mono hx39.1
      · exact J_ret (r := none) dX2_score_42 ⟨rfl, rfl⟩ (⟨⟨hW, he, rfl⟩, ⟨G39, y6, fw, hA39, ⟨_, hO7, hS7⟩, ⟨_, hO7, hF7_6⟩, he6.eq, (by first | exact Or.inl ⟨by omega, he20.eq⟩ | exact Or.inr ⟨by omega, rfl⟩), (by rw [hp39 (by omega)]; exact he38.eq), ho39⟩, hkp, hfp, ⟨_, ⟨_, hO7, hF7_1⟩, (by omega)⟩, ⟨_, ⟨_, hO7, hF7_2⟩, (by omega)⟩, ⟨_, ⟨_, hO7, hF7_4⟩, (by omega)⟩, ⟨_, ⟨_, hO7, hF7_8⟩, (by omega)⟩⟩)
  · refine J_aload_n dX2_score_14 rfl ?_
    refine J_dup dX2_score_15 rfl ?_
    refine J_get jf_X2_32 dX2_score_16 hO7 hF7_6 ?_
    refine Jz_iconst 1 dX2_score_19 (by decide) (fun y19 he19 => ?_)
    refine Jz_iadd jEq.rf he19 dX2_score_20 (by omega) (by omega) (fun y20 he20 => ?_)
    refine Jz_putI hO7 hW id rfl jf_X2_32 jt_X2_6 he20 dX2_score_21 (by omega) (by omega) (fun _ _ => ⟨rfl, rfl⟩) (fun V21 fs21 hW hx21 hO21 hS21 hT21 hB21 => ?_)
    have hK21 : jokO _ (jFs 0) fs21 := hW _ _ id hO21
    have hF21_5 := (hT21 5 (by decide)).trans hS7
    have hF21_1 := (hT21 1 (by decide)).trans hF7_1
    have hF21_2 := (hT21 2 (by decide)).trans hF7_2
    have hF21_4 := (hT21 4 (by decide)).trans hF7_4
    have hF21_8 := (hT21 8 (by decide)).trans hF7_8
    have hF21_0 := (hT21 0 (by decide)).trans hF7_0
    have he := he.trans (hx21.sub (jsub_of rfl))
    have hkp := hkp.trans (jkc.put hO7 hO21 hT21 hB21 (by decide))
    have hfp := hfp.trans (jfp.one hB21 List.mem_cons_self)
    have ha0 := ha0.mono hx21.1
    have hb_wb := hb_wb.mono hx21.1
    have ha_WB := hx21.2 _ _ ha_WB (jnot_of rfl)
    refine J_aload_n dX2_score_24 rfl ?_
    refine J_get jf_X2_11 dX2_score_25 hO21 hF21_0 ?_
    refine J_iload_n dX2_score_28 rfl ?_
    refine J_aload_n dX2_score_29 rfl ?_
    refine J_get jf_X2_11 dX2_score_30 hO21 hF21_0 ?_
    refine J_iload_n dX2_score_33 rfl ?_
    refine J_callSN2 moX6_cell (host := "WalkGrounds") (List.mem_of_getElem? (i := 8) rfl) jw_st_X6_cell dX2_score_34 (w_X6_cell_x (d - 1) _ wb x1 ha_WB (WT_rngI (r := (-2147483648, 2147483647)) hW id rfl ha_WB).1 rfl (by omega) (by omega)) (by omega) (Nat.zero_le _) (Nat.zero_le _) (Nat.le_of_ble_eq_true rfl) (fun r34 V34 h34 => ?_)
    obtain ⟨⟨y34, rfl, hf34⟩, hE34⟩ := h34
    have hE34 := hE34.symm
    subst hE34
    have hz34 : jEq y34.toInt (WB (x1.toInt).toNat).toInt := by rw [← hf34]; rfl
    clear hf34
    · refine Jz_iconst 1 dX2_score_37 (by decide) (fun y37 he37 => ?_)
      refine Jz_iadd hz34 he37 dX2_score_38 (by omega) (by omega) (fun y38 he38 => ?_)
      refine J_callSN3 moX6_put (host := "WalkGrounds") (List.mem_of_getElem? (i := 9) rfl) jw_st_X6_put dX2_score_39 (w_X6_put_z (d - 1) _ wb x1 y38 hW ha_WB (WT_rngI (r := (-2147483648, 2147483647)) hW id rfl ha_WB).1 rfl rfl (by omega)) (by omega) (Nat.zero_le _) (Nat.zero_le _) (Nat.le_of_ble_eq_true rfl) (fun r39 V39 h39 => ?_)
      obtain ⟨rfl, hW, hx39, hB39, G39, hA39, hp39, ho39⟩ := h39
      obtain ⟨hN39, hv39⟩ := WT_rngI (r := (-2147483648, 2147483647)) hW id rfl hA39
      clear hN39
      have he := he.trans (hx39.sub (jsub_of rfl))
      have hkp := hkp.trans (jkc.of hx39 (jnot_of rfl))
      have hfp := hfp.trans (jfp.one hB39 (List.mem_cons_of_mem _ List.mem_cons_self))
      have ha0 := ha0.mono hx39.1
      have hb_wb := hb_wb.mono hx39.1
      have hO21 := hx39.2 _ _ hO21 (jnot_of rfl)
      have hK21 := hK21.mono hx39.1
      · exact J_ret (r := none) dX2_score_42 ⟨rfl, rfl⟩ (⟨⟨hW, he, rfl⟩, ⟨G39, y6, y20, hA39, ⟨_, hO21, hF21_5⟩, ⟨_, hO21, hS21⟩, he6.eq, (by first | exact Or.inl ⟨by omega, he20.eq⟩ | exact Or.inr ⟨by omega, rfl⟩), (by rw [hp39 (by omega)]; exact he38.eq), ho39⟩, hkp, hfp, ⟨_, ⟨_, hO21, hF21_1⟩, (by omega)⟩, ⟨_, ⟨_, hO21, hF21_2⟩, (by omega)⟩, ⟨_, ⟨_, hO21, hF21_4⟩, (by omega)⟩, ⟨_, ⟨_, hO21, hF21_8⟩, (by omega)⟩⟩)
