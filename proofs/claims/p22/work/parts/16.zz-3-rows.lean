set_option maxRecDepth 100000 in
set_option maxHeartbeats 8000000 in
theorem w_X2_score_z {tS : jTS} (d : Nat) (V0 : jH) (a0 : Nat) (x1 : Int32) (x2 : Int32) (w1 : Int32) (h1 : Int32) (rc : Int32) (aw : Int32) (fw : Int32) (sp : Int32) (wb : Nat) (WB : Nat → Int32) (hd : 1 ≤ d) (hW : WT V0) (ha0 : jis V0 (.inr 0) a0) (hf_w1 : jfI V0 a0 0 1 w1) (hf_h1 : jfI V0 a0 0 2 h1) (hf_rc : jfI V0 a0 0 4 rc) (hf_aw : jfI V0 a0 0 5 aw) (hf_fw : jfI V0 a0 0 6 fw) (hf_sp : jfI V0 a0 0 8 sp) (hr_wb : jfR V0 a0 0 0 wb) (ha_WB : V0 wb = some (.inl (12, 36, .inl WB))) (hp0 : 0 ≤ x1.toInt) (hp1 : x1.toInt ≤ 35) (hp2 : 0 ≤ aw.toInt) (hp3 : aw.toInt ≤ 600000) (hp4 : 0 ≤ fw.toInt) (hp5 : fw.toInt ≤ 600000) (hp6 : 0 ≤ (WB x1.toInt.toNat).toInt) (hp7 : (WB x1.toInt.toNat).toInt ≤ 600000) : jTot tS mX2_score d [.ref a0, .int x1, .int x2] V0 0 0 (fun r V => (jPost [.inr 0, .inl 12] V0 rV) r V ∧ (∃ (WB2 : Nat → Int32) (aw2 fw2 : Int32), V wb = some (.inl (12, 36, .inl WB2)) ∧ jfI V a0 0 5 aw2 ∧ jfI V a0 0 6 fw2 ∧ aw2.toInt = aw.toInt + 1 ∧ ((¬ x2.toInt = 0 ∧ fw2.toInt = fw.toInt + 1) ∨ (x2.toInt = 0 ∧ fw2.toInt = fw.toInt)) ∧ (WB2 x1.toInt.toNat).toInt = (WB x1.toInt.toNat).toInt + 1 ∧ ∀ j : Nat, j ≠ x1.toInt.toNat → WB2 j = WB j) ∧ jkc 0 [1, 2, 3] V0 V ∧ jfp [a0, wb] V0 V ∧ (∃ w12 : Int32, jfI V a0 0 1 w12 ∧ (w12.toInt = w1.toInt)) ∧ (∃ h12 : Int32, jfI V a0 0 2 h12 ∧ (h12.toInt = h1.toInt)) ∧ (∃ rc2 : Int32, jfI V a0 0 4 rc2 ∧ (rc2.toInt = rc.toInt)) ∧ (∃ sp2 : Int32, jfI V a0 0 8 sp2 ∧ (sp2.toInt = sp.toInt))) := by
  refine jTot.of_J [some (.ref a0), some (.int x1), some (.int x2)] moX2_score (Nat.le_of_ble_eq_true rfl) rfl ?_
  have hrx1 := j_rng x1
  have hrx2 := j_rng x2
  have he : jeff [.inr 0, .inl 12] V0 V0 := jeff.refl _ _
  have hkp : jkc 0 [1, 2, 3] V0 V0 := jkc.rf
  have hfp : jfp [a0, wb] V0 V0 := jfp.rf
  obtain ⟨fs_a0, hO_a0, hK_a0⟩ := WT_obj hW id ha0
  have hF_w1 := hf_w1.get hO_a0
  have hrw1 : (-2147483648) ≤ w1.toInt ∧ w1.toInt ≤ 2147483647 := jok_rngI hK_a0 rfl hF_w1
  have hF_h1 := hf_h1.get hO_a0
  have hrh1 : (-2147483648) ≤ h1.toInt ∧ h1.toInt ≤ 2147483647 := jok_rngI hK_a0 rfl hF_h1
  have hF_rc := hf_rc.get hO_a0
  have hrrc : (-2147483648) ≤ rc.toInt ∧ rc.toInt ≤ 2147483647 := jok_rngI hK_a0 rfl hF_rc
  have hF_aw := hf_aw.get hO_a0
  have hraw : (-2147483648) ≤ aw.toInt ∧ aw.toInt ≤ 2147483647 := jok_rngI hK_a0 rfl hF_aw
  have hF_fw := hf_fw.get hO_a0
  have hrfw : (-2147483648) ≤ fw.toInt ∧ fw.toInt ≤ 2147483647 := jok_rngI hK_a0 rfl hF_fw
  have hF_sp := hf_sp.get hO_a0
  have hrsp : 0 ≤ sp.toInt ∧ sp.toInt ≤ 1 := jok_rngI hK_a0 rfl hF_sp
  have hF_wb := hr_wb.get hO_a0
  obtain ⟨w_wb, hFq_wb, b_wb, hbq_wb, hb_wb⟩ := hK_a0.2 0 (.inr (some (.inl 12))) rfl
  cases hF_wb.symm.trans (hFq_wb.trans (congrArg some hbq_wb))
  obtain ⟨hN_WB, hv_WB⟩ := WT_rngI (r := ((-2147483648), 2147483647)) hW id rfl ha_WB
  clear hN_WB
  refine J_aload_n dX2_score_0 rfl ?_
  refine J_dup dX2_score_1 rfl ?_
  refine J_get jf_X2_29 dX2_score_2 hO_a0 hF_aw ?_
  refine Jz_iconst 1 dX2_score_5 (by decide) (fun y5 he5 => ?_)
  refine Jz_iadd jEq.rf he5 dX2_score_6 (by omega) (by omega) (fun y6 he6 => ?_)
  refine Jz_putI hO_a0 hW id rfl jf_X2_29 jt_X2_5 he6 dX2_score_7 (by omega) (by omega) (fun _ _ => ⟨rfl, rfl⟩) (fun V7 fs7 hW hx7 hO7 hS7 hT7 hB7 => ?_)
  have hK7 : jokO _ (jFs 0) fs7 := hW _ _ id hO7
  have hF7_1 := (hT7 1 (by decide)).trans hF_w1
  have hF7_2 := (hT7 2 (by decide)).trans hF_h1
  have hF7_4 := (hT7 4 (by decide)).trans hF_rc
  have hF7_6 := (hT7 6 (by decide)).trans hF_fw
  have hF7_8 := (hT7 8 (by decide)).trans hF_sp
  have hF7_0 := (hT7 0 (by decide)).trans hF_wb
  have he := he.trans (hx7.sub (jsub_of rfl))
  have hkp := hkp.trans (jkc.put hO_a0 hO7 hT7 hB7 (by decide))
  have hfp := hfp.trans (jfp.one hB7 List.mem_cons_self)
  have ha0 := ha0.mono hx7.1
  have hb_wb := hb_wb.mono hx7.1
  have ha_WB := hx7.2 _ _ ha_WB (jnot_of rfl)
  refine J_iload_n dX2_score_10 rfl ?_
  refine Jz_if_eq (tgt := 24) jEq.rf dX2_score_11 (by decide) (fun c11 => ?_) (fun c11 => ?_)
  · refine J_aload_n dX2_score_24 rfl ?_
    refine J_get jf_X2_11 dX2_score_25 hO7 hF7_0 ?_
    refine J_iload_n dX2_score_28 rfl ?_
    refine J_aload_n dX2_score_29 rfl ?_
    refine J_get jf_X2_11 dX2_score_30 hO7 hF7_0 ?_
    refine J_iload_n dX2_score_33 rfl ?_
    refine J_callSN2 moX6_cell (host := "WalkGrounds") (List.mem_of_getElem? (i := 8) rfl) jw_st_X6_cell dX2_score_34 (w_X6_cell_x (d - 1) _ wb x1 ha_WB (WT_rngI (r := (-2147483648, 2147483647)) hW id rfl ha_WB).1 rfl (by omega) (by omega)) (by omega) (Nat.zero_le _) (Nat.zero_le _) (Nat.le_of_ble_eq_true rfl) (fun r34 V34 h34 => ?_)
    obtain ⟨⟨y34, rfl, hf34⟩, hE34⟩ := h34
    have hE34 := hE34.symm
    subst hE34
    have hz34 : jEq y34.toInt (WB (x1.toInt).toNat).toInt := by rw [← hf34]; rfl
    clear hf34
    · refine Jz_iconst 1 dX2_score_37 (by decide) (fun y37 he37 => ?_)
      refine Jz_iadd hz34 he37 dX2_score_38 (by omega) (by omega) (fun y38 he38 => ?_)
      refine J_callSN3 moX6_put (host := "WalkGrounds") (List.mem_of_getElem? (i := 9) rfl) jw_st_X6_put dX2_score_39 (w_X6_put_z (d - 1) _ wb x1 y38 hW ha_WB (WT_rngI (r := (-2147483648, 2147483647)) hW id rfl ha_WB).1 rfl rfl (by omega)) (by omega) (Nat.zero_le _) (Nat.zero_le _) (Nat.le_of_ble_eq_true rfl) (fun r39 V39 h39 => ?_)
      obtain ⟨rfl, hW, hx39, hB39, G39, hA39, hp39, ho39⟩ := h39
      obtain ⟨hN39, hv39⟩ := WT_rngI (r := (-2147483648, 2147483647)) hW id rfl hA39
      clear hN39
      have he := he.trans (hx39.sub (jsub_of rfl))
      have hkp := hkp.trans (jkc.of hx39 (jnot_of rfl))
      have hfp := hfp.trans (jfp.one hB39 (List.mem_cons_of_mem _ List.mem_cons_self))
      have ha0 := ha0.mono hx39.1
      have hb_wb := hb_wb.mono hx39.1
      have hO7 := hx39.2 _ _ hO7 (jnot_of rfl)
      have hK7 := hK7.mono hx39.1
      · exact J_ret (r := none) dX2_score_42 ⟨rfl, rfl⟩ (⟨⟨hW, he, rfl⟩, ⟨G39, y6, fw, hA39, ⟨_, hO7, hS7⟩, ⟨_, hO7, hF7_6⟩, he6.eq, (by first | exact Or.inl ⟨by omega, he20.eq⟩ | exact Or.inr ⟨by omega, rfl⟩), (by rw [hp39 (by omega)]; exact he38.eq), ho39⟩, hkp, hfp, ⟨_, ⟨_, hO7, hF7_1⟩, (by omega)⟩, ⟨_, ⟨_, hO7, hF7_2⟩, (by omega)⟩, ⟨_, ⟨_, hO7, hF7_4⟩, (by omega)⟩, ⟨_, ⟨_, hO7, hF7_8⟩, (by omega)⟩⟩)
  · refine J_aload_n dX2_score_14 rfl ?_
    refine J_dup dX2_score_15 rfl ?_
    refine J_get jf_X2_32 dX2_score_16 hO7 hF7_6 ?_
    refine Jz_iconst 1 dX2_score_19 (by decide) (fun y19 he19 => ?_)
    refine Jz_iadd jEq.rf he19 dX2_score_20 (by omega) (by omega) (fun y20 he20 => ?_)
    refine Jz_putI hO7 hW id rfl jf_X2_32 jt_X2_6 he20 dX2_score_21 (by omega) (by omega) (fun _ _ => ⟨rfl, rfl⟩) (fun V21 fs21 hW hx21 hO21 hS21 hT21 hB21 => ?_)
    have hK21 : jokO _ (jFs 0) fs21 := hW _ _ id hO21
    have hF21_5 := (hT21 5 (by decide)).trans hS7
    have hF21_1 := (hT21 1 (by decide)).trans hF7_1
    have hF21_2 := (hT21 2 (by decide)).trans hF7_2
    have hF21_4 := (hT21 4 (by decide)).trans hF7_4
    have hF21_8 := (hT21 8 (by decide)).trans hF7_8
    have hF21_0 := (hT21 0 (by decide)).trans hF7_0
    have he := he.trans (hx21.sub (jsub_of rfl))
    have hkp := hkp.trans (jkc.put hO7 hO21 hT21 hB21 (by decide))
    have hfp := hfp.trans (jfp.one hB21 List.mem_cons_self)
    have ha0 := ha0.mono hx21.1
    have hb_wb := hb_wb.mono hx21.1
    have ha_WB := hx21.2 _ _ ha_WB (jnot_of rfl)
    refine J_aload_n dX2_score_24 rfl ?_
    refine J_get jf_X2_11 dX2_score_25 hO21 hF21_0 ?_
    refine J_iload_n dX2_score_28 rfl ?_
    refine J_aload_n dX2_score_29 rfl ?_
    refine J_get jf_X2_11 dX2_score_30 hO21 hF21_0 ?_
    refine J_iload_n dX2_score_33 rfl ?_
    refine J_callSN2 moX6_cell (host := "WalkGrounds") (List.mem_of_getElem? (i := 8) rfl) jw_st_X6_cell dX2_score_34 (w_X6_cell_x (d - 1) _ wb x1 ha_WB (WT_rngI (r := (-2147483648, 2147483647)) hW id rfl ha_WB).1 rfl (by omega) (by omega)) (by omega) (Nat.zero_le _) (Nat.zero_le _) (Nat.le_of_ble_eq_true rfl) (fun r34 V34 h34 => ?_)
    obtain ⟨⟨y34, rfl, hf34⟩, hE34⟩ := h34
    have hE34 := hE34.symm
    subst hE34
    have hz34 : jEq y34.toInt (WB (x1.toInt).toNat).toInt := by rw [← hf34]; rfl
    clear hf34
    · refine Jz_iconst 1 dX2_score_37 (by decide) (fun y37 he37 => ?_)
      refine Jz_iadd hz34 he37 dX2_score_38 (by omega) (by omega) (fun y38 he38 => ?_)
      refine J_callSN3 moX6_put (host := "WalkGrounds") (List.mem_of_getElem? (i := 9) rfl) jw_st_X6_put dX2_score_39 (w_X6_put_z (d - 1) _ wb x1 y38 hW ha_WB (WT_rngI (r := (-2147483648, 2147483647)) hW id rfl ha_WB).1 rfl rfl (by omega)) (by omega) (Nat.zero_le _) (Nat.zero_le _) (Nat.le_of_ble_eq_true rfl) (fun r39 V39 h39 => ?_)
      obtain ⟨rfl, hW, hx39, hB39, G39, hA39, hp39, ho39⟩ := h39
      obtain ⟨hN39, hv39⟩ := WT_rngI (r := (-2147483648, 2147483647)) hW id rfl hA39
      clear hN39
      have he := he.trans (hx39.sub (jsub_of rfl))
      have hkp := hkp.trans (jkc.of hx39 (jnot_of rfl))
      have hfp := hfp.trans (jfp.one hB39 (List.mem_cons_of_mem _ List.mem_cons_self))
      have ha0 := ha0.mono hx39.1
      have hb_wb := hb_wb.mono hx39.1
      have hO21 := hx39.2 _ _ hO21 (jnot_of rfl)
      have hK21 := hK21.mono hx39.1
      · exact J_ret (r := none) dX2_score_42 ⟨rfl, rfl⟩ (⟨⟨hW, he, rfl⟩, ⟨G39, y6, y20, hA39, ⟨_, hO21, hF21_5⟩, ⟨_, hO21, hS21⟩, he6.eq, (by first | exact Or.inl ⟨by omega, he20.eq⟩ | exact Or.inr ⟨by omega, rfl⟩), (by rw [hp39 (by omega)]; exact he38.eq), ho39⟩, hkp, hfp, ⟨_, ⟨_, hO21, hF21_1⟩, (by omega)⟩, ⟨_, ⟨_, hO21, hF21_2⟩, (by omega)⟩, ⟨_, ⟨_, hO21, hF21_4⟩, (by omega)⟩, ⟨_, ⟨_, hO21, hF21_8⟩, (by omega)⟩⟩)
set_option maxRecDepth 100000 in
set_option maxHeartbeats 8000000 in
theorem w_X2_extend_z {tS : jTS} : ∀ (K d : Nat) (V0 : jH) (a0 : Nat) (x1 : Int32) (x2 : Int32) (x3 : Int64) (w1 : Int32) (h1 : Int32) (rc : Int32) (aw : Int32) (fw : Int32) (sp : Int32) (wb : Nat) (op : Nat → Bool) (NO : Nat) (l : List Nat) (a : jW9) (WB : Nat → Int32), 2 + K ≤ d → WT V0 → (jis V0 (.inr 0) a0) → (0 ≤ x1.toInt) → (x1.toInt ≤ 36) → (jfI V0 a0 0 1 w1) → (jfI V0 a0 0 2 h1) → (jfI V0 a0 0 4 rc) → (jfI V0 a0 0 5 aw) → (jfI V0 a0 0 6 fw) → (jfI V0 a0 0 8 sp) → (jfR V0 a0 0 0 wb) → (V0 wb = some (.inl (12, 36, .inl WB))) → (2 ≤ w1.toInt) → (w1.toInt ≤ 6) → (2 ≤ h1.toInt) → (h1.toInt ≤ 6) → (jwr a rc aw fw WB) → (a.1 ≤ 600001) → (((sp.toInt = 1 ∧ 600000 < a.1) ∨ (sp.toInt = 0 ∧ ¬ 600000 < a.1))) → (l.length = x1.toInt.toNat + 1) → (l.headD 0 = x2.toInt.toNat) → (9 ≤ x2.toInt) → (x2.toInt ≤ 54) → (∀ n : Nat, jbt x3 n = (op n && !decide (n ∈ l))) → (∀ n : Nat, op n = true → 9 ≤ n ∧ n ≤ 54) → (jli op NO l) → (NO ≤ 36) → (37 - x1.toInt).toNat < K → jTot tS mX2_extend d [.ref a0, .int x1, .int x2, .long x3] V0 0 0 (fun r V => (jPost [.inr 0, .inl 12] V0 rV) r V ∧ (∃ (WB2 : Nat → Int32) (rc2 aw2 fw2 sp2 : Int32) (a2 : jW9), V wb = some (.inl (12, 36, .inl WB2)) ∧ jfI V a0 0 4 rc2 ∧ jfI V a0 0 5 aw2 ∧ jfI V a0 0 6 fw2 ∧ jfI V a0 0 8 sp2 ∧ jgy 4 (jch op) (jwz (w1.toInt + 8 * h1.toInt).toNat NO) (36 - x1.toInt).toNat l a = a2 ∧ jwr a2 rc2 aw2 fw2 WB2 ∧ a2.1 ≤ 600001 ∧ ((sp2.toInt = 1 ∧ 600000 < a2.1) ∨ (sp2.toInt = 0 ∧ ¬ 600000 < a2.1))) ∧ jkc 0 [1, 2, 3] V0 V ∧ jfp [a0, wb] V0 V ∧ (∃ w12 : Int32, jfI V a0 0 1 w12 ∧ (w12.toInt = w1.toInt)) ∧ (∃ h12 : Int32, jfI V a0 0 2 h12 ∧ (h12.toInt = h1.toInt))) := by
  intro K
  induction K with
  | zero => intro d V0 a0 x1 x2 x3 w1 h1 rc aw fw sp wb op NO l a WB hd hW ha0 hl1 hh1 hf_w1 hf_h1 hf_rc hf_aw hf_fw hf_sp hr_wb ha_WB hp0 hp1 hp2 hp3 hp4 hp5 hp6 hp7 hp8 hp9 hp10 hp11 hp12 hp13 hp14 hrk; exact absurd hrk (Nat.not_lt_zero _)
  | succ K IH =>
  intro d V0 a0 x1 x2 x3 w1 h1 rc aw fw sp wb op NO l a WB hd hW ha0 hl1 hh1 hf_w1 hf_h1 hf_rc hf_aw hf_fw hf_sp hr_wb ha_WB hp0 hp1 hp2 hp3 hp4 hp5 hp6 hp7 hp8 hp9 hp10 hp11 hp12 hp13 hp14 hrk
  refine jTot.of_J [some (.ref a0), some (.int x1), some (.int x2), some (.long x3), none, none, none, none, none, none, none, none, none] moX2_extend (Nat.le_of_ble_eq_true rfl) rfl ?_
  have hrx2 := j_rng x2
  have he : jeff [.inr 0, .inl 12] V0 V0 := jeff.refl _ _
  have hkp : jkc 0 [1, 2, 3] V0 V0 := jkc.rf
  have hfp : jfp [a0, wb] V0 V0 := jfp.rf
  obtain ⟨fs_a0, hO_a0, hK_a0⟩ := WT_obj hW id ha0
  have hF_w1 := hf_w1.get hO_a0
  have hrw1 : (-2147483648) ≤ w1.toInt ∧ w1.toInt ≤ 2147483647 := jok_rngI hK_a0 rfl hF_w1
  have hF_h1 := hf_h1.get hO_a0
  have hrh1 : (-2147483648) ≤ h1.toInt ∧ h1.toInt ≤ 2147483647 := jok_rngI hK_a0 rfl hF_h1
  have hF_rc := hf_rc.get hO_a0
  have hrrc : (-2147483648) ≤ rc.toInt ∧ rc.toInt ≤ 2147483647 := jok_rngI hK_a0 rfl hF_rc
  have hF_aw := hf_aw.get hO_a0
  have hraw : (-2147483648) ≤ aw.toInt ∧ aw.toInt ≤ 2147483647 := jok_rngI hK_a0 rfl hF_aw
  have hF_fw := hf_fw.get hO_a0
  have hrfw : (-2147483648) ≤ fw.toInt ∧ fw.toInt ≤ 2147483647 := jok_rngI hK_a0 rfl hF_fw
  have hF_sp := hf_sp.get hO_a0
  have hrsp : 0 ≤ sp.toInt ∧ sp.toInt ≤ 1 := jok_rngI hK_a0 rfl hF_sp
  have hF_wb := hr_wb.get hO_a0
  obtain ⟨w_wb, hFq_wb, b_wb, hbq_wb, hb_wb⟩ := hK_a0.2 0 (.inr (some (.inl 12))) rfl
  cases hF_wb.symm.trans (hFq_wb.trans (congrArg some hbq_wb))
  obtain ⟨hN_WB, hv_WB⟩ := WT_rngI (r := ((-2147483648), 2147483647)) hW id rfl ha_WB
  clear hN_WB
  refine J_iload_n dX2_extend_0 rfl ?_
  refine Jz_bipush 36 dX2_extend_1 (by decide) (fun y1 he1 => ?_)
  refine Jz_icmp_lt (tgt := 7) jEq.rf he1 dX2_extend_3 (by decide) (fun c3 => ?_) (fun c3 => ?_)
  · refine J_aload_n dX2_extend_7 rfl ?_
    refine J_get jf_X2_15 dX2_extend_8 hO_a0 hF_w1 ?_
    refine Jz_iconst 1 dX2_extend_11 (by decide) (fun y11 he11 => ?_)
    refine Jz_isub jEq.rf he11 dX2_extend_12 (by omega) (by omega) (fun y12 he12 => ?_)
    refine J_aload_n dX2_extend_13 rfl ?_
    refine J_get jf_X2_19 dX2_extend_14 hO_a0 hF_h1 ?_
    refine Jz_iconst 1 dX2_extend_17 (by decide) (fun y17 he17 => ?_)
    refine Jz_isub jEq.rf he17 dX2_extend_18 (by omega) (by omega) (fun y18 he18 => ?_)
    refine J_callS2 moX2_numberOf jw_ml_X2_50 jw_st_X2_numberOf dX2_extend_19 (w_X2_numberOf_z (d - 1) _ y12 y18 (by omega)   (by (try simp only [he12.eq, true_and, and_true]) <;> omega) (by (try simp only [he12.eq, true_and, and_true]) <;> omega) (by (try simp only [he18.eq, true_and, and_true]) <;> omega) (by (try simp only [he18.eq, true_and, and_true]) <;> omega)) (by omega) (Nat.zero_le _) (Nat.zero_le _) (Nat.le_of_ble_eq_true rfl) (fun r19 V19 h19 => ?_)
    obtain ⟨⟨y19, rfl, hl19, hh19, hP19_0⟩, hE19⟩ := h19
    have hE19 := hE19.symm
    subst hE19
    clear hl19 hh19
    try simp only [he12.eq, he18.eq] at hP19_0
    have hz19 : jEq y19.toInt (9 + (w1.toInt - 1) + 8 * (h1.toInt - 1)) := hP19_0
    clear hP19_0
    refine J_istore dX2_extend_22 rfl (by decide) ?_
    refine J_gets (k := 3) rfl jw_fl_X2_63 dX2_extend_24 ?_
    refine J_astore dX2_extend_27 rfl (by decide) ?_
    refine J_aload dX2_extend_29 rfl ?_
    refine J_tlen (k := 3) (v := Int32.ofNat 4) rfl dX2_extend_31 rfl ?_
    have he31 : jEq (Int32.ofNat 4).toInt 4 := nI_toInt (by decide)
    generalize Int32.ofNat 4 = y31 at he31 ⊢
    refine J_istore dX2_extend_32 rfl (by decide) ?_
    refine Jz_iconst 0 dX2_extend_34 (by decide) (fun y34 he34 => ?_)
    refine J_istore dX2_extend_35 rfl (by decide) ?_
    have L37 : ∀ (N : Nat) (V : jH) (i8n37 : Int32) (gs37a0 : List Value) (g4n37 : Int32) (g5n37 : Int32) (g6n37 : Int32) (g8n37 : Int32) (F12n37 : Nat → Int32), WT V → jeff [.inr 0, .inl 12] V0 V → (jis V (.inr 0) a0) → (jis V (.inl 12) wb) → (jkc 0 [1, 2, 3] V0 V) → (jfp [a0, wb] V0 V) → (V a0 = some (.inr (0, gs37a0))) → (gs37a0[1]? = some (.int w1)) → (gs37a0[2]? = some (.int h1)) → (gs37a0[4]? = some (.int g4n37)) → (gs37a0[5]? = some (.int g5n37)) → (gs37a0[6]? = some (.int g6n37)) → (gs37a0[8]? = some (.int g8n37)) → (gs37a0[0]? = some (.ref wb)) → (V wb = some (.inl (12, 36, .inl F12n37))) → (0 ≤ i8n37.toInt ∧ i8n37.toInt ≤ 4) → (∃ b : jW9, jwr b g4n37 g5n37 g6n37 F12n37 ∧ b.1 ≤ 600001 ∧ ((g8n37.toInt = 1 ∧ 600000 < b.1) ∨ (g8n37.toInt = 0 ∧ ¬ 600000 < b.1)) ∧ jfe 4 (jwf op (w1.toInt + 8 * h1.toInt).toNat NO (36 - x1.toInt - 1).toNat l) (4 - i8n37.toInt).toNat b = jgy 4 (jch op) (jwz (w1.toInt + 8 * h1.toInt).toNat NO) (36 - x1.toInt).toNat l a) → (300 - i8n37.toInt).toNat < N → J tS mX2_extend d 37 [some (.ref a0), some (.int x1), some (.int x2), some (.long x3), none, some (.int y19), some (.ref (tS.1 3)), some (.int y31), some (.int i8n37), none, none, none, none] [] V 0 0 (fun r V => (jPost [.inr 0, .inl 12] V0 rV) r V ∧ (∃ (WB2 : Nat → Int32) (rc2 aw2 fw2 sp2 : Int32) (a2 : jW9), V wb = some (.inl (12, 36, .inl WB2)) ∧ jfI V a0 0 4 rc2 ∧ jfI V a0 0 5 aw2 ∧ jfI V a0 0 6 fw2 ∧ jfI V a0 0 8 sp2 ∧ jgy 4 (jch op) (jwz (w1.toInt + 8 * h1.toInt).toNat NO) (36 - x1.toInt).toNat l a = a2 ∧ jwr a2 rc2 aw2 fw2 WB2 ∧ a2.1 ≤ 600001 ∧ ((sp2.toInt = 1 ∧ 600000 < a2.1) ∨ (sp2.toInt = 0 ∧ ¬ 600000 < a2.1))) ∧ jkc 0 [1, 2, 3] V0 V ∧ jfp [a0, wb] V0 V ∧ (∃ w12 : Int32, jfI V a0 0 1 w12 ∧ (w12.toInt = w1.toInt)) ∧ (∃ h12 : Int32, jfI V a0 0 2 h12 ∧ (h12.toInt = h1.toInt))) := by
      intro N
      induction N with
      | zero => intro V i8n37 gs37a0 g4n37 g5n37 g6n37 g8n37 F12n37 hW he ha0 hb_wb hkp hfp hOgs37a0 hFgs37a0_1 hFgs37a0_2 hFgs37a0_4 hFgs37a0_5 hFgs37a0_6 hFgs37a0_8 hFgs37a0_0 hAF12n37 hi8 hst hm; exact absurd hm (Nat.not_lt_zero _)
      | succ N ih =>
        intro V i8n37 gs37a0 g4n37 g5n37 g6n37 g8n37 F12n37 hW he ha0 hb_wb hkp hfp hOgs37a0 hFgs37a0_1 hFgs37a0_2 hFgs37a0_4 hFgs37a0_5 hFgs37a0_6 hFgs37a0_8 hFgs37a0_0 hAF12n37 hi8 hst hm
        have ih37 := ih
        have hri8 := j_rng i8n37
        have hKgs37a0 : jokO V (jFs 0) gs37a0 := hW _ _ id hOgs37a0
        have hrgg4n37 : (-2147483648) ≤ g4n37.toInt ∧ g4n37.toInt ≤ 2147483647 := jok_rngI hKgs37a0 rfl hFgs37a0_4
        have hrgg5n37 : (-2147483648) ≤ g5n37.toInt ∧ g5n37.toInt ≤ 2147483647 := jok_rngI hKgs37a0 rfl hFgs37a0_5
        have hrgg6n37 : (-2147483648) ≤ g6n37.toInt ∧ g6n37.toInt ≤ 2147483647 := jok_rngI hKgs37a0 rfl hFgs37a0_6
        have hrgg8n37 : 0 ≤ g8n37.toInt ∧ g8n37.toInt ≤ 1 := jok_rngI hKgs37a0 rfl hFgs37a0_8
        obtain ⟨hNF12n37, hvF12n37⟩ := WT_rngI (r := ((-2147483648), 2147483647)) hW id rfl hAF12n37
        clear hNF12n37
        obtain ⟨b, hjr, hb1, hsp, hacc⟩ := hst
        have hjr2 := hjr
        obtain ⟨⟨e1, e2, e3⟩, e4, e5, e6, e7⟩ := hjr2
        clear hp6
        refine J_iload dX2_extend_37 rfl ?_
        refine J_iload dX2_extend_39 rfl ?_
        refine Jz_icmp_ge (tgt := 165) jEq.rf he31 dX2_extend_41 (by decide) (fun c41 => ?_) (fun c41 => ?_)
        · exact J_ret (r := none) dX2_extend_165 ⟨rfl, rfl⟩ (⟨⟨hW, he, rfl⟩, ⟨F12n37, g4n37, g5n37, g6n37, g8n37, b, hAF12n37, ⟨_, hOgs37a0, hFgs37a0_4⟩, ⟨_, hOgs37a0, hFgs37a0_5⟩, ⟨_, hOgs37a0, hFgs37a0_6⟩, ⟨_, hOgs37a0, hFgs37a0_8⟩, (by rw [show (4 - i8n37.toInt).toNat = 0 by omega] at hacc; exact hacc.symm), hjr, hb1, hsp⟩, hkp, hfp, ⟨_, ⟨_, hOgs37a0, hFgs37a0_1⟩, (by omega)⟩, ⟨_, ⟨_, hOgs37a0, hFgs37a0_2⟩, (by omega)⟩⟩)
        · refine J_aload dX2_extend_44 rfl ?_
          refine J_iload dX2_extend_46 rfl ?_
          refine J_ti (k := 3) (v := .int (jSv3.getD i8n37.toNatClampNeg 0)) rfl rfl dX2_extend_48 (vp_in_n (by omega) (by show _ < ((4 : Nat) : Int); omega)) rfl ?_
          have hz48 : jEq (jSv3.getD i8n37.toNatClampNeg 0).toInt (jsh9 i8n37.toInt) := (jtabw (by omega) (by omega))
          generalize jSv3.getD i8n37.toNatClampNeg 0 = y48 at hz48 ⊢
          refine J_istore dX2_extend_49 rfl (by decide) ?_
          refine J_iload_n dX2_extend_51 rfl ?_
          refine J_iload dX2_extend_52 rfl ?_
          have hsb := jsh_b i8n37.toInt
          have hkx : ((jdk (l.headD 0) i8n37.toInt.toNat : Nat) : Int) = (x2.toInt + jsh9 i8n37.toInt) := by rw [hp8]; exact jdk_eq hp9 (by omega) (by omega)
          have hjs := jfe_step (n := 4) (c := (4 - (i8n37.toInt + 1)).toNat) (d := i8n37.toInt.toNat) (f := jwf op (w1.toInt + 8 * h1.toInt).toNat NO (36 - x1.toInt - 1).toNat l) (a := b) (by omega)
          rw [show (4 - (i8n37.toInt + 1)).toNat + 1 = (4 - i8n37.toInt).toNat by omega, hacc] at hjs
          refine Jz_iadd jEq.rf hz48 dX2_extend_54 (by omega) (by omega) (fun y54 he54 => ?_)
          refine J_istore dX2_extend_55 rfl (by decide) ?_
          refine J_lconst (v := 1) dX2_extend_57 rfl ?_
          refine J_iload dX2_extend_58 rfl ?_
          refine J_lshl dX2_extend_60 rfl ?_
          refine J_lstore dX2_extend_61 rfl (by decide) ?_
          have hbit : ∀ n : Nat, jbt ((1 : Int64) <<< (y54.toInt64 &&& 63)) n = decide (n = jdk (l.headD 0) i8n37.toInt.toNat) := fun n => by rw [jbt_shl (by rw [he54.eq]; omega) (by rw [he54.eq]; omega), he54.eq]; exact decide_eq_decide.mpr (by omega)
          refine J_lload_n dX2_extend_63 rfl ?_
          refine J_lload dX2_extend_64 rfl ?_
          refine J_land dX2_extend_66 ?_
          refine J_lconst (v := 0) dX2_extend_67 rfl ?_
          refine Jz_lcmp dX2_extend_68 (fun y68 he68 => ?_)
          refine Jz_if_eq (tgt := 159) jEq.rf dX2_extend_69 (by decide) (fun c69 => ?_) (fun c69 => ?_)
          · have hnin : ¬ (op (jdk (l.headD 0) i8n37.toInt.toNat) = true ∧ ¬ jdk (l.headD 0) i8n37.toInt.toNat ∈ l) := fun z => by have q := (jbt_one hbit).mp (he68.mp c69); rw [hp11, z.1, decide_eq_false z.2] at q; exact absurd q (by decide)
            refine Jz_iinc 1 dX2_extend_159 rfl rfl (by decide) jEq.rf (by decide) (by omega) (by omega) (fun y159 he159 => ?_)
            refine J_goto (tgt := 37) dX2_extend_162 (by decide) ?_
            refine J.mask [true, true, true, true, false, true, true, true, true, false, false, false, false] ?_
            exact ih37 _ y159 gs37a0 g4n37 g5n37 g6n37 g8n37 F12n37 hW he ha0 hb_wb hkp hfp hOgs37a0 hFgs37a0_1 hFgs37a0_2 hFgs37a0_4 hFgs37a0_5 hFgs37a0_6 hFgs37a0_8 hFgs37a0_0 hAF12n37 (by (try simp only [he159.eq, true_and, and_true]) <;> omega) ⟨b, hjr, hb1, hsp, (by rw [he159.eq, hjs, jwf_no hnin])⟩ (by (try simp only [he159.eq, true_and, and_true]) <;> omega)
          · have hyb : jbt x3 (jdk (l.headD 0) i8n37.toInt.toNat) = true := Eq.mp (Bool.not_eq_false _) (fun q => c69 (he68.mpr ((jbt_one hbit).mpr q)))
            rw [hp11, Bool.and_eq_true] at hyb
            have hop : op (jdk (l.headD 0) i8n37.toInt.toNat) = true := hyb.1
            have hnl : ¬ jdk (l.headD 0) i8n37.toInt.toNat ∈ l := fun z => by have q := hyb.2; rw [decide_eq_true z] at q; exact absurd q (by decide)
            have hnx := hp12 _ hop
            have hlm : jli op NO (jdk (l.headD 0) i8n37.toInt.toNat :: l) := hp13.next (fun n z => by have q := hp12 n z; omega) (jch_yes hop hnl)
            have hlml := hlm.le
            rw [List.length_cons, hp7] at hlml
            have hrs : ∀ n : Nat, jbt (x3 &&& (((1 : Int64) <<< (y54.toInt64 &&& 63)) ^^^ (-1 : Int64))) n = (op n && !decide (n ∈ (jdk (l.headD 0) i8n37.toInt.toNat :: l))) := jrest hp12 hp11 hbit
            refine J_aload_n dX2_extend_72 rfl ?_
            refine J_get jf_X2_39 dX2_extend_73 hOgs37a0 hFgs37a0_8 ?_
            refine Jz_if_eq (tgt := 82) jEq.rf dX2_extend_76 (by decide) (fun c76 => ?_) (fun c76 => ?_)
            · have hb6 : ¬ 600000 < b.1 := by omega
              clear hsp
              refine J_aload_n dX2_extend_82 rfl ?_
              refine J_dup dX2_extend_83 rfl ?_
              refine J_get jf_X2_26 dX2_extend_84 hOgs37a0 hFgs37a0_4 ?_
              refine Jz_iconst 1 dX2_extend_87 (by decide) (fun y87 he87 => ?_)
              refine Jz_iadd jEq.rf he87 dX2_extend_88 (by omega) (by omega) (fun y88 he88 => ?_)
              refine Jz_putI hOgs37a0 hW id rfl jf_X2_26 jt_X2_4 he88 dX2_extend_89 (by omega) (by omega) (fun _ _ => ⟨rfl, rfl⟩) (fun V89 fs89 hW hx89 hO89 hS89 hT89 hB89 => ?_)
              have hK89 : jokO _ (jFs 0) fs89 := hW _ _ id hO89
              have hF89_1 := (hT89 1 (by decide)).trans hFgs37a0_1
              have hF89_2 := (hT89 2 (by decide)).trans hFgs37a0_2
              have hF89_5 := (hT89 5 (by decide)).trans hFgs37a0_5
              have hF89_6 := (hT89 6 (by decide)).trans hFgs37a0_6
              have hF89_8 := (hT89 8 (by decide)).trans hFgs37a0_8
              have hF89_0 := (hT89 0 (by decide)).trans hFgs37a0_0
              have he := he.trans (hx89.sub (jsub_of rfl))
              have hkp := hkp.trans (jkc.put hOgs37a0 hO89 hT89 hB89 (by decide))
              have hfp := hfp.trans (jfp.one hB89 List.mem_cons_self)
              have ha0 := ha0.mono hx89.1
              have hb_wb := hb_wb.mono hx89.1
              have hAF12n37 := hx89.2 _ _ hAF12n37 (jnot_of rfl)
              refine J_aload_n dX2_extend_92 rfl ?_
              refine J_aload_n dX2_extend_93 rfl ?_
              refine J_get jf_X2_26 dX2_extend_94 hO89 hS89 ?_
              refine Jz_ldc 600000 jw_k_X2_66 dX2_extend_97 (by decide) (fun y97 he97 => ?_)
              have K107 : ∀ (t0k107 : Int32), ((t0k107.toInt = 1 ∧ 600000 < b.1 + 1) ∨ (t0k107.toInt = 0 ∧ ¬ 600000 < b.1 + 1)) → J tS mX2_extend d 107 [some (.ref a0), some (.int x1), some (.int x2), some (.long x3), none, some (.int y19), some (.ref (tS.1 3)), some (.int y31), some (.int i8n37), some (.int y48), some (.int y54), some (.long ((1 : Int64) <<< (y54.toInt64 &&& 63))), none] [.int t0k107, .ref a0] V89 0 0 (fun r V => (jPost [.inr 0, .inl 12] V0 rV) r V ∧ (∃ (WB2 : Nat → Int32) (rc2 aw2 fw2 sp2 : Int32) (a2 : jW9), V wb = some (.inl (12, 36, .inl WB2)) ∧ jfI V a0 0 4 rc2 ∧ jfI V a0 0 5 aw2 ∧ jfI V a0 0 6 fw2 ∧ jfI V a0 0 8 sp2 ∧ jgy 4 (jch op) (jwz (w1.toInt + 8 * h1.toInt).toNat NO) (36 - x1.toInt).toNat l a = a2 ∧ jwr a2 rc2 aw2 fw2 WB2 ∧ a2.1 ≤ 600001 ∧ ((sp2.toInt = 1 ∧ 600000 < a2.1) ∨ (sp2.toInt = 0 ∧ ¬ 600000 < a2.1))) ∧ jkc 0 [1, 2, 3] V0 V ∧ jfp [a0, wb] V0 V ∧ (∃ w12 : Int32, jfI V a0 0 1 w12 ∧ (w12.toInt = w1.toInt)) ∧ (∃ h12 : Int32, jfI V a0 0 2 h12 ∧ (h12.toInt = h1.toInt))) := by
                intro  t0k107     hk107_0
                refine Jz_putI hO89 hW id rfl jf_X2_39 jt_X2_8 jEq.rf dX2_extend_107 (by omega) (by omega) (fun _ h => ⟨nar_b (by omega) (by omega), fit_b (by omega) (by omega)⟩) (fun V107 fs107 hW hx107 hO107 hS107 hT107 hB107 => ?_)
                have hK107 : jokO _ (jFs 0) fs107 := hW _ _ id hO107
                have hF107_4 := (hT107 4 (by decide)).trans hS89
                have hF107_1 := (hT107 1 (by decide)).trans hF89_1
                have hF107_2 := (hT107 2 (by decide)).trans hF89_2
                have hF107_5 := (hT107 5 (by decide)).trans hF89_5
                have hF107_6 := (hT107 6 (by decide)).trans hF89_6
                have hF107_0 := (hT107 0 (by decide)).trans hF89_0
                have he := he.trans (hx107.sub (jsub_of rfl))
                have hkp := hkp.trans (jkc.put hO89 hO107 hT107 hB107 (by decide))
                have hfp := hfp.trans (jfp.one hB107 List.mem_cons_self)
                have ha0 := ha0.mono hx107.1
                have hb_wb := hb_wb.mono hx107.1
                have hAF12n37 := hx107.2 _ _ hAF12n37 (jnot_of rfl)
                refine J_iload dX2_extend_110 rfl ?_
                refine J_iload dX2_extend_112 rfl ?_
                refine Jz_icmp_ne (tgt := 142) he54 hz19 dX2_extend_114 (by decide) (fun c114 => ?_) (fun c114 => ?_)
                · have hj2 : jwr (jws (w1.toInt + 8 * h1.toInt).toNat NO (jdk (l.headD 0) i8n37.toInt.toNat :: l) b) y88 g5n37 g6n37 F12n37 := hjr.no (show ¬ jdk (l.headD 0) i8n37.toInt.toNat = _ by omega) he88.eq
                  refine J_aload_n dX2_extend_142 rfl ?_
                  refine J_iload_n dX2_extend_143 rfl ?_
                  refine Jz_iconst 1 dX2_extend_144 (by decide) (fun y144 he144 => ?_)
                  refine Jz_iadd jEq.rf he144 dX2_extend_145 (by omega) (by omega) (fun y145 he145 => ?_)
                  refine J_iload dX2_extend_146 rfl ?_
                  refine J_lload_n dX2_extend_148 rfl ?_
                  refine J_lload dX2_extend_149 rfl ?_
                  refine J_ldc2 jw_k_X2_57 dX2_extend_151 ?_
                  refine J_lxor dX2_extend_154 ?_
                  refine J_land dX2_extend_155 ?_
                  have hw1 := jws_1 (w1.toInt + 8 * h1.toInt).toNat NO (jdk (l.headD 0) i8n37.toInt.toNat :: l) b
                  refine J_callS4 moX2_extend jw_ml_X2_59 jw_st_X2_extend dX2_extend_156 (IH (d - 1) _ a0 y145 y54 (x3 &&& (((1 : Int64) <<< (y54.toInt64 &&& 63)) ^^^ (-1 : Int64))) w1 h1 y88 g5n37 g6n37 t0k107 wb op NO (jdk (l.headD 0) i8n37.toInt.toNat :: l) (jws (w1.toInt + 8 * h1.toInt).toNat NO (jdk (l.headD 0) i8n37.toInt.toNat :: l) b) F12n37 (by omega) hW ha0 (by (try simp only [he145.eq, true_and, and_true]) <;> omega) (by (try simp only [he145.eq, true_and, and_true]) <;> omega) ⟨_, hO107, hF107_1⟩ ⟨_, hO107, hF107_2⟩ ⟨_, hO107, hF107_4⟩ ⟨_, hO107, hF107_5⟩ ⟨_, hO107, hF107_6⟩ ⟨_, hO107, hS107⟩ ⟨_, hO107, hF107_0⟩ hAF12n37 (by omega) (by omega) (by omega) (by omega) hj2 (by rw [hw1]; omega) (by rw [hw1]; omega) (by rw [List.length_cons, hp7, he145.eq]; omega) (by rw [he54.eq]; show jdk (l.headD 0) i8n37.toInt.toNat = _; omega) (by rw [he54.eq]; omega) (by rw [he54.eq]; omega) hrs hp12 hlm hp14 (by (try simp only [he145.eq, he54.eq, he88.eq, true_and, and_true]) <;> omega)) (by omega) (Nat.zero_le _) (Nat.zero_le _) (Nat.le_of_ble_eq_true rfl) (fun r156 V156 h156 => ?_)
                  obtain ⟨h156, hX156_0, hX156_1, hX156_2, ⟨fv156_0, hfv156_0, hfp156_0⟩, ⟨fv156_1, hfv156_1, hfp156_1⟩⟩ := h156
                  obtain ⟨hW, hx156, hr156⟩ := h156
                  have he := he.trans (hx156.sub (jsub_of rfl))
                  have hkp := hkp.trans hX156_1
                  have hfp := hfp.trans (hX156_2.sub (fun b hb => by simp only [List.mem_cons, List.not_mem_nil, or_false] at hb ⊢; omega))
                  have ha0 := ha0.mono hx156.1
                  have hb_wb := hb_wb.mono hx156.1
                  obtain ⟨fs156a0, hOfs156a0, hRfs156a0⟩ := hx156.1.keep hO107
                  have hKfs156a0 : jokO _ (jFs 0) fs156a0 := hW _ _ id hOfs156a0
                  have hFfs156a0_0 := hRfs156a0 _ _ hF107_0
                  cases hr156
                  have hFv156_0 := hfv156_0.get hOfs156a0
                  try simp only [he145.eq, he54.eq, he88.eq] at hfp156_0
                  have hsb156_0 : w1 = fv156_0 := (jI_inj.mp hfp156_0).symm
                  subst hsb156_0
                  have hFv156_1 := hfv156_1.get hOfs156a0
                  try simp only [he145.eq, he54.eq, he88.eq] at hfp156_1
                  have hsb156_1 : h1 = fv156_1 := (jI_inj.mp hfp156_1).symm
                  subst hsb156_1
                  obtain ⟨WB156, rc156, aw156, fw156, sp156, b3, hWa156, hrf156, haf156, hff156, hsf156, he3, hj3, hb3, hs3⟩ := hX156_0
                  rw [he145.eq, show (36 - (x1.toInt + 1)).toNat = (36 - x1.toInt - 1).toNat by omega] at he3
                  have hFv1564 := hrf156.get hOfs156a0
                  have hFv1565 := haf156.get hOfs156a0
                  have hFv1566 := hff156.get hOfs156a0
                  have hFv1568 := hsf156.get hOfs156a0
                  obtain ⟨hN_WB156, hv_WB156⟩ := WT_rngI (r := ((-2147483648), 2147483647)) hW id rfl hWa156
                  clear hN_WB156
                  refine Jz_iinc 1 dX2_extend_159 rfl rfl (by decide) jEq.rf (by decide) (by omega) (by omega) (fun y159 he159 => ?_)
                  refine J_goto (tgt := 37) dX2_extend_162 (by decide) ?_
                  refine J.mask [true, true, true, true, false, true, true, true, true, false, false, false, false] ?_
                  exact ih37 _ y159 fs156a0 rc156 aw156 fw156 sp156 WB156 hW he ha0 hb_wb hkp hfp hOfs156a0 hFv156_0 hFv156_1 hFv1564 hFv1565 hFv1566 hFv1568 hFfs156a0_0 hWa156 (by (try simp only [he159.eq, true_and, and_true]) <;> omega) ⟨b3, hj3, hb3, hs3, (by rw [he159.eq, hjs, jwf_yes hop hnl hb6, ← he3])⟩ (by (try simp only [he159.eq, true_and, and_true]) <;> omega)
                · have e4x := e4 (x1.toInt + 1).toNat (by omega)
                  have e7x := e7 (x1.toInt + 1).toNat (by omega)
                  refine J_aload_n dX2_extend_117 rfl ?_
                  refine J_iload_n dX2_extend_118 rfl ?_
                  refine Jz_iconst 1 dX2_extend_119 (by decide) (fun y119 he119 => ?_)
                  refine Jz_iadd jEq.rf he119 dX2_extend_120 (by omega) (by omega) (fun y120 he120 => ?_)
                  refine J_lload_n dX2_extend_121 rfl ?_
                  refine J_lload dX2_extend_122 rfl ?_
                  refine J_ldc2 jw_k_X2_57 dX2_extend_124 ?_
                  refine J_lxor dX2_extend_127 ?_
                  refine J_land dX2_extend_128 ?_
                  refine J_lconst (v := 0) dX2_extend_129 rfl ?_
                  refine Jz_lcmp dX2_extend_130 (fun y130 he130 => ?_)
                  have K139 : ∀ (t0k139 : Int32), ((¬ t0k139.toInt = 0 ∧ x1.toInt.toNat + 1 + 1 = NO) ∨ (t0k139.toInt = 0 ∧ ¬ x1.toInt.toNat + 1 + 1 = NO)) → J tS mX2_extend d 139 [some (.ref a0), some (.int x1), some (.int x2), some (.long x3), none, some (.int y19), some (.ref (tS.1 3)), some (.int y31), some (.int i8n37), some (.int y48), some (.int y54), some (.long ((1 : Int64) <<< (y54.toInt64 &&& 63))), none] [.int t0k139, .int y120, .ref a0] V107 0 0 (fun r V => (jPost [.inr 0, .inl 12] V0 rV) r V ∧ (∃ (WB2 : Nat → Int32) (rc2 aw2 fw2 sp2 : Int32) (a2 : jW9), V wb = some (.inl (12, 36, .inl WB2)) ∧ jfI V a0 0 4 rc2 ∧ jfI V a0 0 5 aw2 ∧ jfI V a0 0 6 fw2 ∧ jfI V a0 0 8 sp2 ∧ jgy 4 (jch op) (jwz (w1.toInt + 8 * h1.toInt).toNat NO) (36 - x1.toInt).toNat l a = a2 ∧ jwr a2 rc2 aw2 fw2 WB2 ∧ a2.1 ≤ 600001 ∧ ((sp2.toInt = 1 ∧ 600000 < a2.1) ∨ (sp2.toInt = 0 ∧ ¬ 600000 < a2.1))) ∧ jkc 0 [1, 2, 3] V0 V ∧ jfp [a0, wb] V0 V ∧ (∃ w12 : Int32, jfI V a0 0 1 w12 ∧ (w12.toInt = w1.toInt)) ∧ (∃ h12 : Int32, jfI V a0 0 2 h12 ∧ (h12.toInt = h1.toInt))) := by
                    intro  t0k139     hk139_0
                    refine Jw_callV2 (q9 := (RX2, TX2, 9)) moX2_score jw_ml_X2_67 jw_im_X2_score jw_se_X2_score ha0 rfl rfl dX2_extend_139 (w_X2_score_z (d - 1) _ a0 y120 t0k139 w1 h1 y88 g5n37 g6n37 t0k107 wb F12n37 (by omega) hW  ha0 ⟨_, hO107, hF107_1⟩ ⟨_, hO107, hF107_2⟩ ⟨_, hO107, hF107_4⟩ ⟨_, hO107, hF107_5⟩ ⟨_, hO107, hF107_6⟩ ⟨_, hO107, hS107⟩ ⟨_, hO107, hF107_0⟩ hAF12n37 (by (try simp only [he120.eq, true_and, and_true]) <;> omega) (by (try simp only [he120.eq, true_and, and_true]) <;> omega) (by omega) (by omega) (by omega) (by omega) (by (try simp only [he120.eq, true_and, and_true]) <;> omega) (by (try simp only [he120.eq, true_and, and_true]) <;> omega)) (by omega) (Nat.zero_le _) (Nat.zero_le _) (Nat.le_of_ble_eq_true rfl) (fun r139 V139 h139 => ?_)
                    obtain ⟨h139, hX139_0, hX139_1, hX139_2, ⟨fv139_0, hfv139_0, hfp139_0⟩, ⟨fv139_1, hfv139_1, hfp139_1⟩, ⟨fv139_2, hfv139_2, hfp139_2⟩, ⟨fv139_3, hfv139_3, hfp139_3⟩⟩ := h139
                    obtain ⟨hW, hx139, hr139⟩ := h139
                    have he := he.trans (hx139.sub (jsub_of rfl))
                    have hkp := hkp.trans hX139_1
                    have hfp := hfp.trans (hX139_2.sub (fun b hb => by simp only [List.mem_cons, List.not_mem_nil, or_false] at hb ⊢; omega))
                    have ha0 := ha0.mono hx139.1
                    have hb_wb := hb_wb.mono hx139.1
                    obtain ⟨fs139a0, hOfs139a0, hRfs139a0⟩ := hx139.1.keep hO107
                    have hKfs139a0 : jokO _ (jFs 0) fs139a0 := hW _ _ id hOfs139a0
                    have hFfs139a0_0 := hRfs139a0 _ _ hF107_0
                    cases hr139
                    have hFv139_0 := hfv139_0.get hOfs139a0
                    try simp only [he120.eq, he88.eq] at hfp139_0
                    have hsb139_0 : w1 = fv139_0 := (jI_inj.mp hfp139_0).symm
                    subst hsb139_0
                    have hFv139_1 := hfv139_1.get hOfs139a0
                    try simp only [he120.eq, he88.eq] at hfp139_1
                    have hsb139_1 : h1 = fv139_1 := (jI_inj.mp hfp139_1).symm
                    subst hsb139_1
                    have hFv139_2 := hfv139_2.get hOfs139a0
                    try simp only [he120.eq, he88.eq] at hfp139_2
                    have hzf139_2 : jEq fv139_2.toInt ((g4n37.toInt + 1)) := hfp139_2
                    clear hfp139_2
                    have hFv139_3 := hfv139_3.get hOfs139a0
                    try simp only [he120.eq, he88.eq] at hfp139_3
                    have hsb139_3 : t0k107 = fv139_3 := (jI_inj.mp hfp139_3).symm
                    subst hsb139_3
                    obtain ⟨WB139, aw139, fw139, hWa139, haf139, hff139, q1, q2, q3, q4⟩ := hX139_0
                    rw [he120.eq] at q3 q4
                    have hj2 : jwr (jws (w1.toInt + 8 * h1.toInt).toNat NO (jdk (l.headD 0) i8n37.toInt.toNat :: l) b) fv139_2 aw139 fw139 WB139 := hjr.yes (j := (x1.toInt + 1).toNat) (show jdk (l.headD 0) i8n37.toInt.toNat = _ by omega) (by rw [List.length_cons, hp7]; omega) (by omega) hzf139_2.eq q1 (by rw [List.length_cons, hp7]; rcases q2 with ⟨w1, w2⟩ | ⟨w1, w2⟩; exact Or.inl ⟨w2, by omega⟩; exact Or.inr ⟨w2, by omega⟩) q3 q4
                    have hFv1395 := haf139.get hOfs139a0
                    have hFv1396 := hff139.get hOfs139a0
                    obtain ⟨hN_WB139, hv_WB139⟩ := WT_rngI (r := ((-2147483648), 2147483647)) hW id rfl hWa139
                    clear hN_WB139
                    refine J_aload_n dX2_extend_142 rfl ?_
                    refine J_iload_n dX2_extend_143 rfl ?_
                    refine Jz_iconst 1 dX2_extend_144 (by decide) (fun y144 he144 => ?_)
                    refine Jz_iadd jEq.rf he144 dX2_extend_145 (by omega) (by omega) (fun y145 he145 => ?_)
                    refine J_iload dX2_extend_146 rfl ?_
                    refine J_lload_n dX2_extend_148 rfl ?_
                    refine J_lload dX2_extend_149 rfl ?_
                    refine J_ldc2 jw_k_X2_57 dX2_extend_151 ?_
                    refine J_lxor dX2_extend_154 ?_
                    refine J_land dX2_extend_155 ?_
                    have hw1 := jws_1 (w1.toInt + 8 * h1.toInt).toNat NO (jdk (l.headD 0) i8n37.toInt.toNat :: l) b
                    refine J_callS4 moX2_extend jw_ml_X2_59 jw_st_X2_extend dX2_extend_156 (IH (d - 1) _ a0 y145 y54 (x3 &&& (((1 : Int64) <<< (y54.toInt64 &&& 63)) ^^^ (-1 : Int64))) w1 h1 fv139_2 aw139 fw139 t0k107 wb op NO (jdk (l.headD 0) i8n37.toInt.toNat :: l) (jws (w1.toInt + 8 * h1.toInt).toNat NO (jdk (l.headD 0) i8n37.toInt.toNat :: l) b) WB139 (by omega) hW ha0 (by (try simp only [he145.eq, true_and, and_true]) <;> omega) (by (try simp only [he145.eq, true_and, and_true]) <;> omega) ⟨_, hOfs139a0, hFv139_0⟩ ⟨_, hOfs139a0, hFv139_1⟩ ⟨_, hOfs139a0, hFv139_2⟩ ⟨_, hOfs139a0, hFv1395⟩ ⟨_, hOfs139a0, hFv1396⟩ ⟨_, hOfs139a0, hFv139_3⟩ ⟨_, hOfs139a0, hFfs139a0_0⟩ hWa139 (by omega) (by omega) (by omega) (by omega) hj2 (by rw [hw1]; omega) (by rw [hw1]; omega) (by rw [List.length_cons, hp7, he145.eq]; omega) (by rw [he54.eq]; show jdk (l.headD 0) i8n37.toInt.toNat = _; omega) (by rw [he54.eq]; omega) (by rw [he54.eq]; omega) hrs hp12 hlm hp14 (by (try simp only [he145.eq, he54.eq, hzf139_2.eq, true_and, and_true]) <;> omega)) (by omega) (Nat.zero_le _) (Nat.zero_le _) (Nat.le_of_ble_eq_true rfl) (fun r156 V156 h156 => ?_)
                    obtain ⟨h156, hX156_0, hX156_1, hX156_2, ⟨fv156_0, hfv156_0, hfp156_0⟩, ⟨fv156_1, hfv156_1, hfp156_1⟩⟩ := h156
                    obtain ⟨hW, hx156, hr156⟩ := h156
                    have he := he.trans (hx156.sub (jsub_of rfl))
                    have hkp := hkp.trans hX156_1
                    have hfp := hfp.trans (hX156_2.sub (fun b hb => by simp only [List.mem_cons, List.not_mem_nil, or_false] at hb ⊢; omega))
                    have ha0 := ha0.mono hx156.1
                    have hb_wb := hb_wb.mono hx156.1
                    obtain ⟨fs156a0, hOfs156a0, hRfs156a0⟩ := hx156.1.keep hOfs139a0
                    have hKfs156a0 : jokO _ (jFs 0) fs156a0 := hW _ _ id hOfs156a0
                    have hFfs156a0_0 := hRfs156a0 _ _ hFfs139a0_0
                    cases hr156
                    have hFv156_0 := hfv156_0.get hOfs156a0
                    try simp only [he145.eq, he54.eq, hzf139_2.eq] at hfp156_0
                    have hsb156_0 : w1 = fv156_0 := (jI_inj.mp hfp156_0).symm
                    subst hsb156_0
                    have hFv156_1 := hfv156_1.get hOfs156a0
                    try simp only [he145.eq, he54.eq, hzf139_2.eq] at hfp156_1
                    have hsb156_1 : h1 = fv156_1 := (jI_inj.mp hfp156_1).symm
                    subst hsb156_1
                    obtain ⟨WB156, rc156, aw156, fw156, sp156, b3, hWa156, hrf156, haf156, hff156, hsf156, he3, hj3, hb3, hs3⟩ := hX156_0
                    rw [he145.eq, show (36 - (x1.toInt + 1)).toNat = (36 - x1.toInt - 1).toNat by omega] at he3
                    have hFv1564 := hrf156.get hOfs156a0
                    have hFv1565 := haf156.get hOfs156a0
                    have hFv1566 := hff156.get hOfs156a0
                    have hFv1568 := hsf156.get hOfs156a0
                    obtain ⟨hN_WB156, hv_WB156⟩ := WT_rngI (r := ((-2147483648), 2147483647)) hW id rfl hWa156
                    clear hN_WB156
                    refine Jz_iinc 1 dX2_extend_159 rfl rfl (by decide) jEq.rf (by decide) (by omega) (by omega) (fun y159 he159 => ?_)
                    refine J_goto (tgt := 37) dX2_extend_162 (by decide) ?_
                    refine J.mask [true, true, true, true, false, true, true, true, true, false, false, false, false] ?_
                    exact ih37 _ y159 fs156a0 rc156 aw156 fw156 sp156 WB156 hW he ha0 hb_wb hkp hfp hOfs156a0 hFv156_0 hFv156_1 hFv1564 hFv1565 hFv1566 hFv1568 hFfs156a0_0 hWa156 (by (try simp only [he159.eq, true_and, and_true]) <;> omega) ⟨b3, hj3, hb3, hs3, (by rw [he159.eq, hjs, jwf_yes hop hnl hb6, ← he3])⟩ (by (try simp only [he159.eq, true_and, and_true]) <;> omega)
                  refine Jz_if_ne (tgt := 138) jEq.rf dX2_extend_131 (by decide) (fun c131 => ?_) (fun c131 => ?_)
                  · refine Jz_iconst 0 dX2_extend_138 (by decide) (fun y138 he138 => ?_)
                    exact K139  y138  (by have hrz := jrest0 hrs hlm; rw [List.length_cons, hp7] at hrz; exact Or.inr ⟨he138.eq, fun z => c131 (he130.mpr (hrz.mpr z))⟩)
                  · refine Jz_iconst 1 dX2_extend_134 (by decide) (fun y134 he134 => ?_)
                    refine J_goto (tgt := 139) dX2_extend_135 (by decide) ?_
                    exact K139  y134  (by have hrz := jrest0 hrs hlm; rw [List.length_cons, hp7] at hrz; exact Or.inl ⟨by rw [he134.eq]; decide, hrz.mp (he130.mp c131)⟩)
              refine Jz_icmp_le (tgt := 106) he88 he97 dX2_extend_99 (by decide) (fun c99 => ?_) (fun c99 => ?_)
              · refine Jz_iconst 0 dX2_extend_106 (by decide) (fun y106 he106 => ?_)
                exact K107  y106  (by (try simp only [he106.eq, true_and, and_true]) <;> omega)
              · refine Jz_iconst 1 dX2_extend_102 (by decide) (fun y102 he102 => ?_)
                refine J_goto (tgt := 107) dX2_extend_103 (by decide) ?_
                exact K107  y102  (by (try simp only [he102.eq, true_and, and_true]) <;> omega)
            · refine J_goto (tgt := 159) dX2_extend_79 (by decide) ?_
              refine Jz_iinc 1 dX2_extend_159 rfl rfl (by decide) jEq.rf (by decide) (by omega) (by omega) (fun y159 he159 => ?_)
              refine J_goto (tgt := 37) dX2_extend_162 (by decide) ?_
              refine J.mask [true, true, true, true, false, true, true, true, true, false, false, false, false] ?_
              exact ih37 _ y159 gs37a0 g4n37 g5n37 g6n37 g8n37 F12n37 hW he ha0 hb_wb hkp hfp hOgs37a0 hFgs37a0_1 hFgs37a0_2 hFgs37a0_4 hFgs37a0_5 hFgs37a0_6 hFgs37a0_8 hFgs37a0_0 hAF12n37 (by (try simp only [he159.eq, true_and, and_true]) <;> omega) ⟨b, hjr, hb1, hsp, (by rw [he159.eq, hjs, jwf_stop (by omega)])⟩ (by (try simp only [he159.eq, true_and, and_true]) <;> omega)
    refine J.mask [true, true, true, true, false, true, true, true, true, false, false, false, false] ?_
    exact L37 _ _ y34 fs_a0 rc aw fw sp WB hW he ha0 hb_wb hkp hfp hO_a0 hF_w1 hF_h1 hF_rc hF_aw hF_fw hF_sp hF_wb ha_WB (by (try simp only [he34.eq, true_and, and_true]) <;> omega) ⟨a, hp4, hp5, hp6, (by rw [he34.eq, show (4 - (0 : Int)).toNat = 4 by decide, show (36 - x1.toInt).toNat = (36 - x1.toInt - 1).toNat + 1 by omega]; rfl)⟩ (Nat.lt_succ_self _)
  · exact J_ret (r := none) dX2_extend_6 ⟨rfl, rfl⟩ (⟨⟨hW, he, rfl⟩, ⟨WB, rc, aw, fw, sp, a, ha_WB, ⟨_, hO_a0, hF_rc⟩, ⟨_, hO_a0, hF_aw⟩, ⟨_, hO_a0, hF_fw⟩, ⟨_, hO_a0, hF_sp⟩, (by rw [show (36 - x1.toInt).toNat = 0 by omega]; rfl), hp4, hp5, hp6⟩, hkp, hfp, ⟨_, ⟨_, hO_a0, hF_w1⟩, (by omega)⟩, ⟨_, ⟨_, hO_a0, hF_h1⟩, (by omega)⟩⟩)
set_option maxRecDepth 100000 in
set_option maxHeartbeats 8000000 in
theorem w_X2_countWays_z {tS : jTS} (d : Nat) (V0 : jH) (a0 : Nat) (w1 : Int32) (h1 : Int32) (op : Int64) (wb : Nat) (NO : Nat) (WB : Nat → Int32) (hd : 41 ≤ d) (hW : WT V0) (ha0 : jis V0 (.inr 0) a0) (hf_w1 : jfI V0 a0 0 1 w1) (hf_h1 : jfI V0 a0 0 2 h1) (hq_op : jfL V0 a0 0 3 op) (hr_wb : jfR V0 a0 0 0 wb) (ha_WB : V0 wb = some (.inl (12, 36, .inl WB))) (hp0 : 2 ≤ w1.toInt) (hp1 : w1.toInt ≤ 6) (hp2 : 2 ≤ h1.toInt) (hp3 : h1.toInt ≤ 6) (hp4 : ∀ n : Nat, jbt op n = true → 9 ≤ n ∧ n ≤ 54) (hp5 : jbt op 9 = true) (hp6 : jsum (fun n => (jbt op n).toNat) 64 = NO) (hp7 : NO ≤ 36) : jTot tS mX2_countWays d [.ref a0] V0 0 0 (fun r V => (jPost [.inr 0, .inl 12] V0 rV) r V ∧ (∃ (WB2 : Nat → Int32) (rc2 aw2 fw2 sp2 : Int32), V wb = some (.inl (12, 36, .inl WB2)) ∧ jfI V a0 0 4 rc2 ∧ jfI V a0 0 5 aw2 ∧ jfI V a0 0 6 fw2 ∧ jfI V a0 0 8 sp2 ∧ jwd (jbt op) (w1.toInt + 8 * h1.toInt).toNat NO sp2 rc2 aw2 fw2 WB2) ∧ jkc 0 [1, 2, 3] V0 V ∧ jfp [a0, wb] V0 V ∧ (∃ w12 : Int32, jfI V a0 0 1 w12 ∧ (w12.toInt = w1.toInt)) ∧ (∃ h12 : Int32, jfI V a0 0 2 h12 ∧ (h12.toInt = h1.toInt))) := by
  refine jTot.of_J [some (.ref a0), none] moX2_countWays (Nat.le_of_ble_eq_true rfl) rfl ?_
  have he : jeff [.inr 0, .inl 12] V0 V0 := jeff.refl _ _
  have hkp : jkc 0 [1, 2, 3] V0 V0 := jkc.rf
  have hfp : jfp [a0, wb] V0 V0 := jfp.rf
  obtain ⟨fs_a0, hO_a0, hK_a0⟩ := WT_obj hW id ha0
  have hF_w1 := hf_w1.get hO_a0
  have hrw1 : (-2147483648) ≤ w1.toInt ∧ w1.toInt ≤ 2147483647 := jok_rngI hK_a0 rfl hF_w1
  have hF_h1 := hf_h1.get hO_a0
  have hrh1 : (-2147483648) ≤ h1.toInt ∧ h1.toInt ≤ 2147483647 := jok_rngI hK_a0 rfl hF_h1
  have hF_op := hq_op.get hO_a0
  have hF_wb := hr_wb.get hO_a0
  obtain ⟨w_wb, hFq_wb, b_wb, hbq_wb, hb_wb⟩ := hK_a0.2 0 (.inr (some (.inl 12))) rfl
  cases hF_wb.symm.trans (hFq_wb.trans (congrArg some hbq_wb))
  obtain ⟨hN_WB, hv_WB⟩ := WT_rngI (r := ((-2147483648), 2147483647)) hW id rfl ha_WB
  clear hN_WB
  refine J_aload_n dX2_countWays_0 rfl ?_
  refine Jz_iconst 0 dX2_countWays_1 (by decide) (fun y1 he1 => ?_)
  refine Jz_putI hO_a0 hW id rfl jf_X2_26 jt_X2_4 he1 dX2_countWays_2 (by omega) (by omega) (fun _ _ => ⟨rfl, rfl⟩) (fun V2 fs2 hW hx2 hO2 hS2 hT2 hB2 => ?_)
  have hK2 : jokO _ (jFs 0) fs2 := hW _ _ id hO2
  have hF2_1 := (hT2 1 (by decide)).trans hF_w1
  have hF2_2 := (hT2 2 (by decide)).trans hF_h1
  have hF2_3 := (hT2 3 (by decide)).trans hF_op
  have hF2_0 := (hT2 0 (by decide)).trans hF_wb
  have he := he.trans (hx2.sub (jsub_of rfl))
  have hkp := hkp.trans (jkc.put hO_a0 hO2 hT2 hB2 (by decide))
  have hfp := hfp.trans (jfp.one hB2 List.mem_cons_self)
  have ha0 := ha0.mono hx2.1
  have hb_wb := hb_wb.mono hx2.1
  have ha_WB := hx2.2 _ _ ha_WB (jnot_of rfl)
  refine J_aload_n dX2_countWays_5 rfl ?_
  refine Jz_iconst 0 dX2_countWays_6 (by decide) (fun y6 he6 => ?_)
  refine Jz_putI hO2 hW id rfl jf_X2_29 jt_X2_5 he6 dX2_countWays_7 (by omega) (by omega) (fun _ _ => ⟨rfl, rfl⟩) (fun V7 fs7 hW hx7 hO7 hS7 hT7 hB7 => ?_)
  have hK7 : jokO _ (jFs 0) fs7 := hW _ _ id hO7
  have hF7_4 := (hT7 4 (by decide)).trans hS2
  have hF7_1 := (hT7 1 (by decide)).trans hF2_1
  have hF7_2 := (hT7 2 (by decide)).trans hF2_2
  have hF7_3 := (hT7 3 (by decide)).trans hF2_3
  have hF7_0 := (hT7 0 (by decide)).trans hF2_0
  have he := he.trans (hx7.sub (jsub_of rfl))
  have hkp := hkp.trans (jkc.put hO2 hO7 hT7 hB7 (by decide))
  have hfp := hfp.trans (jfp.one hB7 List.mem_cons_self)
  have ha0 := ha0.mono hx7.1
  have hb_wb := hb_wb.mono hx7.1
  have ha_WB := hx7.2 _ _ ha_WB (jnot_of rfl)
  refine J_aload_n dX2_countWays_10 rfl ?_
  refine Jz_iconst 0 dX2_countWays_11 (by decide) (fun y11 he11 => ?_)
  refine Jz_putI hO7 hW id rfl jf_X2_32 jt_X2_6 he11 dX2_countWays_12 (by omega) (by omega) (fun _ _ => ⟨rfl, rfl⟩) (fun V12 fs12 hW hx12 hO12 hS12 hT12 hB12 => ?_)
  have hK12 : jokO _ (jFs 0) fs12 := hW _ _ id hO12
  have hF12_5 := (hT12 5 (by decide)).trans hS7
  have hF12_4 := (hT12 4 (by decide)).trans hF7_4
  have hF12_1 := (hT12 1 (by decide)).trans hF7_1
  have hF12_2 := (hT12 2 (by decide)).trans hF7_2
  have hF12_3 := (hT12 3 (by decide)).trans hF7_3
  have hF12_0 := (hT12 0 (by decide)).trans hF7_0
  have he := he.trans (hx12.sub (jsub_of rfl))
  have hkp := hkp.trans (jkc.put hO7 hO12 hT12 hB12 (by decide))
  have hfp := hfp.trans (jfp.one hB12 List.mem_cons_self)
  have ha0 := ha0.mono hx12.1
  have hb_wb := hb_wb.mono hx12.1
  have ha_WB := hx12.2 _ _ ha_WB (jnot_of rfl)
  refine J_aload_n dX2_countWays_15 rfl ?_
  refine Jz_iconst 0 dX2_countWays_16 (by decide) (fun y16 he16 => ?_)
  refine Jz_putI hO12 hW id rfl jf_X2_39 jt_X2_8 he16 dX2_countWays_17 (by omega) (by omega) (fun _ h => ⟨nar_b (by omega) (by omega), fit_b (by omega) (by omega)⟩) (fun V17 fs17 hW hx17 hO17 hS17 hT17 hB17 => ?_)
  have hK17 : jokO _ (jFs 0) fs17 := hW _ _ id hO17
  have hF17_6 := (hT17 6 (by decide)).trans hS12
  have hF17_5 := (hT17 5 (by decide)).trans hF12_5
  have hF17_4 := (hT17 4 (by decide)).trans hF12_4
  have hF17_1 := (hT17 1 (by decide)).trans hF12_1
  have hF17_2 := (hT17 2 (by decide)).trans hF12_2
  have hF17_3 := (hT17 3 (by decide)).trans hF12_3
  have hF17_0 := (hT17 0 (by decide)).trans hF12_0
  have he := he.trans (hx17.sub (jsub_of rfl))
  have hkp := hkp.trans (jkc.put hO12 hO17 hT17 hB17 (by decide))
  have hfp := hfp.trans (jfp.one hB17 List.mem_cons_self)
  have ha0 := ha0.mono hx17.1
  have hb_wb := hb_wb.mono hx17.1
  have ha_WB := hx17.2 _ _ ha_WB (jnot_of rfl)
  refine Jz_iconst 0 dX2_countWays_20 (by decide) (fun y20 he20 => ?_)
  refine J_istore_n dX2_countWays_21 rfl (by decide) ?_
  have L22 : ∀ (N : Nat) (V : jH) (i1n22 : Int32) (F12n22 : Nat → Int32), WT V → jeff [.inr 0, .inl 12] V0 V → (jis V (.inr 0) a0) → (jis V (.inl 12) wb) → (jkc 0 [1, 2, 3] V0 V) → (jfp [a0, wb] V0 V) → (V a0 = some (.inr (0, fs17))) → (jokO V (jFs 0) fs17) → (V wb = some (.inl (12, 36, .inl F12n22))) → (0 ≤ i1n22.toInt ∧ i1n22.toInt ≤ 36) → (∀ j : Nat, (j : Int) < i1n22.toInt → (F12n22 j).toInt = 0) → (300 - i1n22.toInt).toNat < N → J tS mX2_countWays d 22 [some (.ref a0), some (.int i1n22)] [] V 0 0 (fun r V => (jPost [.inr 0, .inl 12] V0 rV) r V ∧ (∃ (WB2 : Nat → Int32) (rc2 aw2 fw2 sp2 : Int32), V wb = some (.inl (12, 36, .inl WB2)) ∧ jfI V a0 0 4 rc2 ∧ jfI V a0 0 5 aw2 ∧ jfI V a0 0 6 fw2 ∧ jfI V a0 0 8 sp2 ∧ jwd (jbt op) (w1.toInt + 8 * h1.toInt).toNat NO sp2 rc2 aw2 fw2 WB2) ∧ jkc 0 [1, 2, 3] V0 V ∧ jfp [a0, wb] V0 V ∧ (∃ w12 : Int32, jfI V a0 0 1 w12 ∧ (w12.toInt = w1.toInt)) ∧ (∃ h12 : Int32, jfI V a0 0 2 h12 ∧ (h12.toInt = h1.toInt))) := by
    intro N
    induction N with
    | zero => intro V i1n22 F12n22 hW he ha0 hb_wb hkp hfp hO17 hK17 hAF12n22 hi1 hz hm; exact absurd hm (Nat.not_lt_zero _)
    | succ N ih =>
      intro V i1n22 F12n22 hW he ha0 hb_wb hkp hfp hO17 hK17 hAF12n22 hi1 hz hm
      have ih22 := ih
      have hri1 := j_rng i1n22
      obtain ⟨hNF12n22, hvF12n22⟩ := WT_rngI (r := ((-2147483648), 2147483647)) hW id rfl hAF12n22
      clear hNF12n22
      refine J_iload_n dX2_countWays_22 rfl ?_
      refine J_aload_n dX2_countWays_23 rfl ?_
      refine J_get jf_X2_11 dX2_countWays_24 hO17 hF17_0 ?_
      refine J_alen dX2_countWays_27 hAF12n22 rfl rfl ?_
      have he27 : jEq (Int32.ofNat 36).toInt 36 := nI_toInt (by decide)
      generalize Int32.ofNat 36 = y27 at he27 ⊢
      refine Jz_icmp_ge (tgt := 44) jEq.rf he27 dX2_countWays_28 (by decide) (fun c28 => ?_) (fun c28 => ?_)
      · refine J_aload_n dX2_countWays_44 rfl ?_
        refine Jz_iconst 0 dX2_countWays_45 (by decide) (fun y45 he45 => ?_)
        refine Jz_bipush 9 dX2_countWays_46 (by decide) (fun y46 he46 => ?_)
        refine J_aload_n dX2_countWays_48 rfl ?_
        refine J_get jf_X2_22 dX2_countWays_49 hO17 hF17_3 ?_
        refine Jz_iconst 0 dX2_countWays_52 (by decide) (fun y52 he52 => ?_)
        refine Jz_iconst 0 dX2_countWays_53 (by decide) (fun y53 he53 => ?_)
        refine J_callS2 moX2_bitOf jw_ml_X2_46 jw_st_X2_bitOf dX2_countWays_54 (w_X2_bitOf_z (d - 1) _ y52 y53 (by omega)   (by (try simp only [he52.eq, true_and, and_true]) <;> omega) (by (try simp only [he52.eq, true_and, and_true]) <;> omega) (by (try simp only [he53.eq, true_and, and_true]) <;> omega) (by (try simp only [he53.eq, true_and, and_true]) <;> omega)) (by omega) (Nat.zero_le _) (Nat.zero_le _) (Nat.le_of_ble_eq_true rfl) (fun r54 V54 h54 => ?_)
        obtain ⟨⟨y54, rfl, hP54_0⟩, hE54⟩ := h54
        try simp only [he52.eq, he53.eq] at hP54_0
        have hE54 := hE54.symm
        subst hE54
        refine J_ldc2 jw_k_X2_57 dX2_countWays_57 ?_
        refine J_lxor dX2_countWays_60 ?_
        refine J_land dX2_countWays_61 ?_
        refine J_callS4 moX2_extend jw_ml_X2_59 jw_st_X2_extend dX2_countWays_62 (w_X2_extend_z 38 (d - 1) _ a0 y45 y46 (op &&& (y54 ^^^ (-1 : Int64))) w1 h1 y1 y6 y11 y16 wb (jbt op) NO [9] jW0 F12n22 (by omega) hW ha0 (by (try simp only [he45.eq, true_and, and_true]) <;> omega) (by (try simp only [he45.eq, true_and, and_true]) <;> omega) ⟨_, hO17, hF17_1⟩ ⟨_, hO17, hF17_2⟩ ⟨_, hO17, hF17_4⟩ ⟨_, hO17, hF17_5⟩ ⟨_, hO17, hF17_6⟩ ⟨_, hO17, hS17⟩ ⟨_, hO17, hF17_0⟩ hAF12n22 (by omega) (by omega) (by omega) (by omega) (jwr.zero he1.eq he6.eq he11.eq (fun k hk => hz k (by omega))) (by decide) (Or.inr ⟨he16.eq, by decide⟩) (by rw [he45.eq]; rfl) (by rw [he46.eq]; rfl) (by rw [he46.eq]; omega) (by rw [he46.eq]; omega) (jrest (l := []) hp4 (fun n => by rw [decide_eq_false (show ¬ n ∈ ([] : List Nat) from List.not_mem_nil)]; exact (Bool.and_true _).symm) (fun n => (hP54_0 n).trans (decide_eq_decide.mpr (by omega)))) hp4 (jli.one hp5 hp6) hp7 (by (try simp only [he45.eq, he46.eq, he1.eq, he6.eq, he11.eq, he16.eq, true_and, and_true]) <;> omega)) (by omega) (Nat.zero_le _) (Nat.zero_le _) (Nat.le_of_ble_eq_true rfl) (fun r62 V62 h62 => ?_)
        obtain ⟨h62, hX62_0, hX62_1, hX62_2, ⟨fv62_0, hfv62_0, hfp62_0⟩, ⟨fv62_1, hfv62_1, hfp62_1⟩⟩ := h62
        obtain ⟨hW, hx62, hr62⟩ := h62
        have he := he.trans (hx62.sub (jsub_of rfl))
        have hkp := hkp.trans hX62_1
        have hfp := hfp.trans (hX62_2.sub (fun b hb => by simp only [List.mem_cons, List.not_mem_nil, or_false] at hb ⊢; omega))
        have ha0 := ha0.mono hx62.1
        have hb_wb := hb_wb.mono hx62.1
        obtain ⟨fs62a0, hOfs62a0, hRfs62a0⟩ := hx62.1.keep hO17
        have hKfs62a0 : jokO _ (jFs 0) fs62a0 := hW _ _ id hOfs62a0
        have hFfs62a0_0 := hRfs62a0 _ _ hF17_0
        cases hr62
        have hFv62_0 := hfv62_0.get hOfs62a0
        try simp only [he45.eq, he46.eq, he1.eq, he6.eq, he11.eq, he16.eq] at hfp62_0
        have hsb62_0 : w1 = fv62_0 := (jI_inj.mp hfp62_0).symm
        subst hsb62_0
        have hFv62_1 := hfv62_1.get hOfs62a0
        try simp only [he45.eq, he46.eq, he1.eq, he6.eq, he11.eq, he16.eq] at hfp62_1
        have hsb62_1 : h1 = fv62_1 := (jI_inj.mp hfp62_1).symm
        subst hsb62_1
        obtain ⟨WB62, rc62, aw62, fw62, sp62, b3, hWa62, hrf62, haf62, hff62, hsf62, he3, hj3, hb3, hs3⟩ := hX62_0
        rw [he45.eq, show (36 - (0 : Int)).toNat = 36 by decide] at he3
        have hFv624 := hrf62.get hOfs62a0
        have hFv625 := haf62.get hOfs62a0
        have hFv626 := hff62.get hOfs62a0
        have hFv628 := hsf62.get hOfs62a0
        obtain ⟨hN_WB62, hv_WB62⟩ := WT_rngI (r := ((-2147483648), 2147483647)) hW id rfl hWa62
        clear hN_WB62
        exact J_ret (r := none) dX2_countWays_65 ⟨rfl, rfl⟩ (⟨⟨hW, he, rfl⟩, ⟨WB62, rc62, aw62, fw62, sp62, hWa62, ⟨_, hOfs62a0, hFv624⟩, ⟨_, hOfs62a0, hFv625⟩, ⟨_, hOfs62a0, hFv626⟩, ⟨_, hOfs62a0, hFv628⟩, b3, he3, hj3, hb3, hs3⟩, hkp, hfp, ⟨_, ⟨_, hOfs62a0, hFv62_0⟩, (by omega)⟩, ⟨_, ⟨_, hOfs62a0, hFv62_1⟩, (by omega)⟩⟩)
      · refine J_aload_n dX2_countWays_31 rfl ?_
        refine J_get jf_X2_11 dX2_countWays_32 hO17 hF17_0 ?_
        refine J_iload_n dX2_countWays_35 rfl ?_
        refine Jz_iconst 0 dX2_countWays_36 (by decide) (fun y36 he36 => ?_)
        refine Jz_iastB (r := ((-2147483648), 2147483647)) jEq.rf he36 hW id dX2_countWays_37 hAF12n22 rfl rfl (by omega) (by omega) (by omega) (by omega) (fun V37 G37 hW hx37 hA37 hp37 ho37 hB37 => ?_)
        obtain ⟨hN37, hv37⟩ := WT_rngI (r := ((-2147483648), 2147483647)) hW id rfl hA37
        clear hN37
        have he := he.trans (hx37.sub (jsub_of rfl))
        have hkp := hkp.trans (jkc.of hx37 (jnot_of rfl))
        have hfp := hfp.trans (jfp.one hB37 (List.mem_cons_of_mem _ List.mem_cons_self))
        have ha0 := ha0.mono hx37.1
        have hb_wb := hb_wb.mono hx37.1
        have hO17 := hx37.2 _ _ hO17 (jnot_of rfl)
        have hK17 := hK17.mono hx37.1
        refine Jz_iinc 1 dX2_countWays_38 rfl rfl (by decide) jEq.rf (by decide) (by omega) (by omega) (fun y38 he38 => ?_)
        refine J_goto (tgt := 22) dX2_countWays_41 (by decide) ?_
        refine J.mask [true, true] ?_
        exact ih22 _ y38 G37 hW he ha0 hb_wb hkp hfp hO17 hK17 hA37 (by (try simp only [he38.eq, true_and, and_true]) <;> omega) (fun j hj => by rw [he38.eq] at hj; exact (Nat.decEq j i1n22.toInt.toNat).byCases (fun hq => by rw [hq, hp37, he36.eq]) (fun hq => by rw [ho37 j hq]; exact hz j (by omega))) (by (try simp only [he38.eq, true_and, and_true]) <;> omega)
  refine J.mask [true, true] ?_
  exact L22 _ _ y20 WB hW he ha0 hb_wb hkp hfp hO17 hK17 ha_WB (by (try simp only [he20.eq, true_and, and_true]) <;> omega) (fun j hj => by rw [he20.eq] at hj; omega) (Nat.lt_succ_self _)
set_option maxRecDepth 100000 in
set_option maxHeartbeats 8000000 in
theorem w_X2_holds_z {tS : jTS} (d : Nat) (V0 : jH) (a0 : Nat) (w1 : Int32) (h1 : Int32) (rc : Int32) (aw : Int32) (fw : Int32) (sp : Int32) (cn : Int32) (op : Int64) (wb : Nat) (NO : Nat) (WB : Nat → Int32) (hd : 42 ≤ d) (hW : WT V0) (ha0 : jis V0 (.inr 0) a0) (hf_w1 : jfI V0 a0 0 1 w1) (hf_h1 : jfI V0 a0 0 2 h1) (hf_rc : jfI V0 a0 0 4 rc) (hf_aw : jfI V0 a0 0 5 aw) (hf_fw : jfI V0 a0 0 6 fw) (hf_sp : jfI V0 a0 0 8 sp) (hf_cn : jfI V0 a0 0 7 cn) (hq_op : jfL V0 a0 0 3 op) (hr_wb : jfR V0 a0 0 0 wb) (ha_WB : V0 wb = some (.inl (12, 36, .inl WB))) (hp0 : 2 ≤ w1.toInt) (hp1 : w1.toInt ≤ 6) (hp2 : 2 ≤ h1.toInt) (hp3 : h1.toInt ≤ 6) (hp4 : ∀ n : Nat, jbt op n = true → 9 ≤ n ∧ n ≤ 54) (hp5 : jbt op 9 = true) (hp6 : jsum (fun n => (jbt op n).toNat) 64 = NO) (hp7 : NO ≤ 36) (hp8 : jwm (jbt op) (w1.toInt + 8 * h1.toInt).toNat NO cn sp rc aw fw WB) : jTot tS mX2_holds d [.ref a0] V0 0 0 (fun r V => (jPost [.inr 0, .inl 12] V0 (fun r _ => ∃ y : Int32, r = some (.int y) ∧ (0 ≤ y.toInt) ∧ (y.toInt ≤ 1) ∧ ((y.toInt = 1 ∧ (jWY (jbt op) (w1.toInt + 8 * h1.toInt).toNat NO).1 ≤ 600000) ∨ (y.toInt = 0 ∧ 600000 < (jWY (jbt op) (w1.toInt + 8 * h1.toInt).toNat NO).1)))) r V ∧ (∃ (WB2 : Nat → Int32) (cn2 rc2 aw2 fw2 sp2 : Int32), V wb = some (.inl (12, 36, .inl WB2)) ∧ jfI V a0 0 7 cn2 ∧ jfI V a0 0 4 rc2 ∧ jfI V a0 0 5 aw2 ∧ jfI V a0 0 6 fw2 ∧ jfI V a0 0 8 sp2 ∧ jwd (jbt op) (w1.toInt + 8 * h1.toInt).toNat NO sp2 rc2 aw2 fw2 WB2) ∧ jkc 0 [1, 2, 3] V0 V ∧ jfp [a0, wb] V0 V ∧ (∃ w12 : Int32, jfI V a0 0 1 w12 ∧ (w12.toInt = w1.toInt)) ∧ (∃ h12 : Int32, jfI V a0 0 2 h12 ∧ (h12.toInt = h1.toInt))) := by
  refine jTot.of_J [some (.ref a0)] moX2_holds (Nat.le_of_ble_eq_true rfl) rfl ?_
  have he : jeff [.inr 0, .inl 12] V0 V0 := jeff.refl _ _
  have hkp : jkc 0 [1, 2, 3] V0 V0 := jkc.rf
  have hfp : jfp [a0, wb] V0 V0 := jfp.rf
  obtain ⟨fs_a0, hO_a0, hK_a0⟩ := WT_obj hW id ha0
  have hF_w1 := hf_w1.get hO_a0
  have hrw1 : (-2147483648) ≤ w1.toInt ∧ w1.toInt ≤ 2147483647 := jok_rngI hK_a0 rfl hF_w1
  have hF_h1 := hf_h1.get hO_a0
  have hrh1 : (-2147483648) ≤ h1.toInt ∧ h1.toInt ≤ 2147483647 := jok_rngI hK_a0 rfl hF_h1
  have hF_rc := hf_rc.get hO_a0
  have hrrc : (-2147483648) ≤ rc.toInt ∧ rc.toInt ≤ 2147483647 := jok_rngI hK_a0 rfl hF_rc
  have hF_aw := hf_aw.get hO_a0
  have hraw : (-2147483648) ≤ aw.toInt ∧ aw.toInt ≤ 2147483647 := jok_rngI hK_a0 rfl hF_aw
  have hF_fw := hf_fw.get hO_a0
  have hrfw : (-2147483648) ≤ fw.toInt ∧ fw.toInt ≤ 2147483647 := jok_rngI hK_a0 rfl hF_fw
  have hF_sp := hf_sp.get hO_a0
  have hrsp : 0 ≤ sp.toInt ∧ sp.toInt ≤ 1 := jok_rngI hK_a0 rfl hF_sp
  have hF_cn := hf_cn.get hO_a0
  have hrcn : 0 ≤ cn.toInt ∧ cn.toInt ≤ 1 := jok_rngI hK_a0 rfl hF_cn
  have hF_op := hq_op.get hO_a0
  have hF_wb := hr_wb.get hO_a0
  obtain ⟨w_wb, hFq_wb, b_wb, hbq_wb, hb_wb⟩ := hK_a0.2 0 (.inr (some (.inl 12))) rfl
  cases hF_wb.symm.trans (hFq_wb.trans (congrArg some hbq_wb))
  obtain ⟨hN_WB, hv_WB⟩ := WT_rngI (r := ((-2147483648), 2147483647)) hW id rfl ha_WB
  clear hN_WB
  refine J_aload_n dX2_holds_0 rfl ?_
  refine J_get jf_X2_35 dX2_holds_1 hO_a0 hF_cn ?_
  refine Jz_if_ne (tgt := 16) jEq.rf dX2_holds_4 (by decide) (fun c4 => ?_) (fun c4 => ?_)
  · have hjd := hp8 (by omega)
    refine J_aload_n dX2_holds_16 rfl ?_
    have hjs := hjd.say
    refine J_get jf_X2_39 dX2_holds_17 hO_a0 hF_sp ?_
    refine Jz_if_ne (tgt := 27) jEq.rf dX2_holds_20 (by decide) (fun c20 => ?_) (fun c20 => ?_)
    · refine Jz_iconst 0 dX2_holds_27 (by decide) (fun y27 he27 => ?_)
      exact J_ret (r := some (.int _)) dX2_holds_28 ⟨rfl, _, rfl, (nar_b (by (try simp only [he27.eq, true_and, and_true]) <;> omega) (by (try simp only [he27.eq, true_and, and_true]) <;> omega))⟩ (⟨⟨hW, he, ⟨_, rfl, (by (try simp only [he27.eq, true_and, and_true]) <;> omega), (by (try simp only [he27.eq, true_and, and_true]) <;> omega), (by rcases hjs with ⟨q1, q2, -⟩ | ⟨q1, q2⟩; exact absurd q1 c20; exact Or.inr ⟨he27.eq, q2⟩)⟩⟩, ⟨WB, cn, rc, aw, fw, sp, ha_WB, ⟨_, hO_a0, hF_cn⟩, ⟨_, hO_a0, hF_rc⟩, ⟨_, hO_a0, hF_aw⟩, ⟨_, hO_a0, hF_fw⟩, ⟨_, hO_a0, hF_sp⟩, hjd⟩, hkp, hfp, ⟨_, ⟨_, hO_a0, hF_w1⟩, (by omega)⟩, ⟨_, ⟨_, hO_a0, hF_h1⟩, (by omega)⟩⟩)
    · refine Jz_iconst 1 dX2_holds_23 (by decide) (fun y23 he23 => ?_)
      refine J_goto (tgt := 28) dX2_holds_24 (by decide) ?_
      exact J_ret (r := some (.int _)) dX2_holds_28 ⟨rfl, _, rfl, (nar_b (by (try simp only [he23.eq, true_and, and_true]) <;> omega) (by (try simp only [he23.eq, true_and, and_true]) <;> omega))⟩ (⟨⟨hW, he, ⟨_, rfl, (by (try simp only [he23.eq, true_and, and_true]) <;> omega), (by (try simp only [he23.eq, true_and, and_true]) <;> omega), (by rcases hjs with ⟨q1, q2, -⟩ | ⟨q1, q2⟩; exact Or.inl ⟨he23.eq, q2⟩; omega)⟩⟩, ⟨WB, cn, rc, aw, fw, sp, ha_WB, ⟨_, hO_a0, hF_cn⟩, ⟨_, hO_a0, hF_rc⟩, ⟨_, hO_a0, hF_aw⟩, ⟨_, hO_a0, hF_fw⟩, ⟨_, hO_a0, hF_sp⟩, hjd⟩, hkp, hfp, ⟨_, ⟨_, hO_a0, hF_w1⟩, (by omega)⟩, ⟨_, ⟨_, hO_a0, hF_h1⟩, (by omega)⟩⟩)
  · refine J_aload_n dX2_holds_7 rfl ?_
    refine Jw_callV0 (q9 := (RX2, TX2, 9)) moX2_countWays jw_ml_X2_54 jw_im_X2_countWays jw_se_X2_countWays ha0 rfl rfl dX2_holds_8 (w_X2_countWays_z (d - 1) _ a0 w1 h1 op wb NO WB (by omega) hW  ha0 ⟨_, hO_a0, hF_w1⟩ ⟨_, hO_a0, hF_h1⟩ ⟨_, hO_a0, hF_op⟩ ⟨_, hO_a0, hF_wb⟩ ha_WB (by omega) (by omega) (by omega) (by omega) (by omega) (by omega) (by omega) (by omega)) (by omega) (Nat.zero_le _) (Nat.zero_le _) (Nat.le_of_ble_eq_true rfl) (fun r8 V8 h8 => ?_)
    obtain ⟨h8, hX8_0, hX8_1, hX8_2, ⟨fv8_0, hfv8_0, hfp8_0⟩, ⟨fv8_1, hfv8_1, hfp8_1⟩⟩ := h8
    obtain ⟨hW, hx8, hr8⟩ := h8
    have he := he.trans (hx8.sub (jsub_of rfl))
    have hkp := hkp.trans hX8_1
    have hfp := hfp.trans (hX8_2.sub (fun b hb => by simp only [List.mem_cons, List.not_mem_nil, or_false] at hb ⊢; omega))
    have ha0 := ha0.mono hx8.1
    have hb_wb := hb_wb.mono hx8.1
    obtain ⟨fs8a0, hOfs8a0, hRfs8a0⟩ := hx8.1.keep hO_a0
    have hKfs8a0 : jokO _ (jFs 0) fs8a0 := hW _ _ id hOfs8a0
    have hFfs8a0_0 := hRfs8a0 _ _ hF_wb
    cases hr8
    have hFv8_0 := hfv8_0.get hOfs8a0
    have hsb8_0 : w1 = fv8_0 := (jI_inj.mp hfp8_0).symm
    subst hsb8_0
    have hFv8_1 := hfv8_1.get hOfs8a0
    have hsb8_1 : h1 = fv8_1 := (jI_inj.mp hfp8_1).symm
    subst hsb8_1
    obtain ⟨WB8, rc8, aw8, fw8, sp8, hWa8, hrf8, haf8, hff8, hsf8, hjd⟩ := hX8_0
    have hFv84 := hrf8.get hOfs8a0
    have hFv85 := haf8.get hOfs8a0
    have hFv86 := hff8.get hOfs8a0
    have hFv88 := hsf8.get hOfs8a0
    obtain ⟨hN_WB8, hv_WB8⟩ := WT_rngI (r := ((-2147483648), 2147483647)) hW id rfl hWa8
    clear hN_WB8
    refine J_aload_n dX2_holds_11 rfl ?_
    refine Jz_iconst 1 dX2_holds_12 (by decide) (fun y12 he12 => ?_)
    refine Jz_putI hOfs8a0 hW id rfl jf_X2_35 jt_X2_7 he12 dX2_holds_13 (by omega) (by omega) (fun _ h => ⟨nar_b (by omega) (by omega), fit_b (by omega) (by omega)⟩) (fun V13 fs13 hW hx13 hO13 hS13 hT13 hB13 => ?_)
    have hK13 : jokO _ (jFs 0) fs13 := hW _ _ id hO13
    have hF13_0 := (hT13 0 (by decide)).trans hFfs8a0_0
    have hF13_1 := (hT13 1 (by decide)).trans hFv8_0
    have hF13_2 := (hT13 2 (by decide)).trans hFv8_1
    have hF13_4 := (hT13 4 (by decide)).trans hFv84
    have hF13_5 := (hT13 5 (by decide)).trans hFv85
    have hF13_6 := (hT13 6 (by decide)).trans hFv86
    have hF13_8 := (hT13 8 (by decide)).trans hFv88
    have he := he.trans (hx13.sub (jsub_of rfl))
    have hkp := hkp.trans (jkc.put hOfs8a0 hO13 hT13 hB13 (by decide))
    have hfp := hfp.trans (jfp.one hB13 List.mem_cons_self)
    have ha0 := ha0.mono hx13.1
    have hb_wb := hb_wb.mono hx13.1
    have hWa8 := hx13.2 _ _ hWa8 (jnot_of rfl)
    refine J_aload_n dX2_holds_16 rfl ?_
    have hjs := hjd.say
    refine J_get jf_X2_39 dX2_holds_17 hO13 hF13_8 ?_
    refine Jz_if_ne (tgt := 27) jEq.rf dX2_holds_20 (by decide) (fun c20 => ?_) (fun c20 => ?_)
    · refine Jz_iconst 0 dX2_holds_27 (by decide) (fun y27 he27 => ?_)
      exact J_ret (r := some (.int _)) dX2_holds_28 ⟨rfl, _, rfl, (nar_b (by (try simp only [he27.eq, true_and, and_true]) <;> omega) (by (try simp only [he27.eq, true_and, and_true]) <;> omega))⟩ (⟨⟨hW, he, ⟨_, rfl, (by (try simp only [he27.eq, true_and, and_true]) <;> omega), (by (try simp only [he27.eq, true_and, and_true]) <;> omega), (by rcases hjs with ⟨q1, q2, -⟩ | ⟨q1, q2⟩; exact absurd q1 c20; exact Or.inr ⟨he27.eq, q2⟩)⟩⟩, ⟨WB8, y12, rc8, aw8, fw8, sp8, hWa8, ⟨_, hO13, hS13⟩, ⟨_, hO13, hF13_4⟩, ⟨_, hO13, hF13_5⟩, ⟨_, hO13, hF13_6⟩, ⟨_, hO13, hF13_8⟩, hjd⟩, hkp, hfp, ⟨_, ⟨_, hO13, hF13_1⟩, (by omega)⟩, ⟨_, ⟨_, hO13, hF13_2⟩, (by omega)⟩⟩)
    · refine Jz_iconst 1 dX2_holds_23 (by decide) (fun y23 he23 => ?_)
      refine J_goto (tgt := 28) dX2_holds_24 (by decide) ?_
      exact J_ret (r := some (.int _)) dX2_holds_28 ⟨rfl, _, rfl, (nar_b (by (try simp only [he23.eq, true_and, and_true]) <;> omega) (by (try simp only [he23.eq, true_and, and_true]) <;> omega))⟩ (⟨⟨hW, he, ⟨_, rfl, (by (try simp only [he23.eq, true_and, and_true]) <;> omega), (by (try simp only [he23.eq, true_and, and_true]) <;> omega), (by rcases hjs with ⟨q1, q2, -⟩ | ⟨q1, q2⟩; exact Or.inl ⟨he23.eq, q2⟩; omega)⟩⟩, ⟨WB8, y12, rc8, aw8, fw8, sp8, hWa8, ⟨_, hO13, hS13⟩, ⟨_, hO13, hF13_4⟩, ⟨_, hO13, hF13_5⟩, ⟨_, hO13, hF13_6⟩, ⟨_, hO13, hF13_8⟩, hjd⟩, hkp, hfp, ⟨_, ⟨_, hO13, hF13_1⟩, (by omega)⟩, ⟨_, ⟨_, hO13, hF13_2⟩, (by omega)⟩⟩)
set_option maxRecDepth 100000 in
set_option maxHeartbeats 8000000 in
theorem w_X6_ways_z {tS : jTS} (d : Nat) (V0 : jH) (a0 : Nat) (x1 : Int32) (pl : Nat) (w1 : Int32) (h1 : Int32) (op : Int64) (rc : Int32) (aw : Int32) (fw : Int32) (cn : Int32) (sp : Int32) (wb : Nat) (WB : Nat → Int32) (NO : Nat) (hd : 43 ≤ d) (hW : WT V0) (ha0 : jis V0 (.inr 4) a0) (hl1 : 0 ≤ x1.toInt) (hh1 : x1.toInt ≤ 1) (hr_pl : jfR V0 a0 4 6 pl) (hf_w1 : jfI V0 pl 0 1 w1) (hf_h1 : jfI V0 pl 0 2 h1) (hf_op : jfL V0 pl 0 3 op) (hf_rc : jfI V0 pl 0 4 rc) (hf_aw : jfI V0 pl 0 5 aw) (hf_fw : jfI V0 pl 0 6 fw) (hf_cn : jfI V0 pl 0 7 cn) (hf_sp : jfI V0 pl 0 8 sp) (hr_wb : jfR V0 pl 0 0 wb) (ha_WB : V0 wb = some (.inl (12, 36, .inl WB))) (hp0 : 2 ≤ w1.toInt) (hp1 : w1.toInt ≤ 6) (hp2 : 2 ≤ h1.toInt) (hp3 : h1.toInt ≤ 6) (hp4 : ∀ n : Nat, jbt op n = true → 9 ≤ n ∧ n ≤ 54) (hp5 : jbt op 9 = true) (hp6 : jsum (fun n => (jbt op n).toNat) 64 = NO) (hp7 : NO ≤ 36) (hp8 : jwm (jbt op) (w1.toInt + 8 * h1.toInt).toNat NO cn sp rc aw fw WB) : jTot tS mX6_ways d [.ref a0, .int x1] V0 0 0 (fun r V => (jPost [.inr 0, .inl 12] V0 (fun r _ => ∃ y : Int32, r = some (.int y) ∧ ((-2147483648) ≤ y.toInt) ∧ (y.toInt ≤ 2147483647) ∧ ((600000 < (jWY (jbt op) (w1.toInt + 8 * h1.toInt).toNat NO).1 ∧ y.toInt = -5) ∨ ((jWY (jbt op) (w1.toInt + 8 * h1.toInt).toNat NO).1 ≤ 600000 ∧ ((x1.toInt = 0 ∧ y.toInt = ((jWY (jbt op) (w1.toInt + 8 * h1.toInt).toNat NO).2.2.1 : Int)) ∨ (¬ x1.toInt = 0 ∧ y.toInt = ((jWY (jbt op) (w1.toInt + 8 * h1.toInt).toNat NO).2.2.2 : Int))))))) r V ∧ (∃ (WB2 : Nat → Int32) (cn2 rc2 aw2 fw2 sp2 : Int32), V wb = some (.inl (12, 36, .inl WB2)) ∧ jfI V pl 0 7 cn2 ∧ jfI V pl 0 4 rc2 ∧ jfI V pl 0 5 aw2 ∧ jfI V pl 0 6 fw2 ∧ jfI V pl 0 8 sp2 ∧ jwd (jbt op) (w1.toInt + 8 * h1.toInt).toNat NO sp2 rc2 aw2 fw2 WB2) ∧ jkc 0 [1, 2, 3] V0 V) := by
  refine jTot.of_J [some (.ref a0), some (.int x1)] moX6_ways (Nat.le_of_ble_eq_true rfl) rfl ?_
  have he : jeff [.inr 0, .inl 12] V0 V0 := jeff.refl _ _
  have hkp : jkc 0 [1, 2, 3] V0 V0 := jkc.rf
  obtain ⟨fs_a0, hO_a0, hK_a0⟩ := WT_obj hW id ha0
  have hF_pl := hr_pl.get hO_a0
  obtain ⟨w_pl, hFq_pl, b_pl, hbq_pl, hb_pl⟩ := hK_a0.2 6 (.inr (some (.inr 0))) rfl
  cases hF_pl.symm.trans (hFq_pl.trans (congrArg some hbq_pl))
  obtain ⟨fsp, hOp, hKp⟩ := WT_obj hW id hb_pl
  have hF_w1 := hf_w1.get hOp
  have hF_h1 := hf_h1.get hOp
  have hF_op := hf_op.get hOp
  have hF_rc := hf_rc.get hOp
  have hF_aw := hf_aw.get hOp
  have hF_fw := hf_fw.get hOp
  have hF_cn := hf_cn.get hOp
  have hF_sp := hf_sp.get hOp
  have hF_wb := hr_wb.get hOp
  have hb_wb : jis V0 (.inl 12) wb := ⟨_, ha_WB, rfl⟩
  refine J_aload_n dX6_ways_0 rfl ?_
  refine J_get jf_X6_42 dX6_ways_1 hO_a0 hF_pl ?_
  refine Jw_callV0 (q9 := (RX2, TX2, 9)) moX2_holds jw_ml_X6_220 jw_im_X2_holds jw_se_X2_holds hb_pl rfl rfl dX6_ways_4 (w_X2_holds_z (d - 1) _ pl w1 h1 rc aw fw sp cn op wb NO WB (by omega) hW  hb_pl ⟨_, hOp, hF_w1⟩ ⟨_, hOp, hF_h1⟩ ⟨_, hOp, hF_rc⟩ ⟨_, hOp, hF_aw⟩ ⟨_, hOp, hF_fw⟩ ⟨_, hOp, hF_sp⟩ ⟨_, hOp, hF_cn⟩ ⟨_, hOp, hF_op⟩ ⟨_, hOp, hF_wb⟩ ha_WB (by omega) (by omega) (by omega) (by omega) (by omega) (by omega) (by omega) (by omega) (by omega)) (by omega) (Nat.zero_le _) (Nat.zero_le _) (Nat.le_of_ble_eq_true rfl) (fun r4 V4 h4 => ?_)
  obtain ⟨h4, hX4_0, hX4_1, hX4_2, ⟨fv4_0, hfv4_0, hfp4_0⟩, ⟨fv4_1, hfv4_1, hfp4_1⟩⟩ := h4
  obtain ⟨hW, hx4, hr4⟩ := h4
  have he := he.trans (hx4.sub (jsub_of rfl))
  have hkp := hkp.trans hX4_1
  have ha0 := ha0.mono hx4.1
  have hb_pl := hb_pl.mono hx4.1
  have hb_wb := hb_wb.mono hx4.1
  have hO_a0 := hx4.2 _ _ hO_a0 (jnot_of rfl)
  have hK_a0 := hK_a0.mono hx4.1
  obtain ⟨fs4pl, hOfs4pl, hRfs4pl⟩ := hx4.1.keep hOp
  have hKfs4pl : jokO _ (jFs 0) fs4pl := hW _ _ id hOfs4pl
  have hFfs4pl_0 := hRfs4pl _ _ hF_wb
  obtain ⟨y4, rfl, hl4, hh4, hP4_0⟩ := hr4
  have hFv4_0 := hfv4_0.get hOfs4pl
  have hsb4_0 : w1 = fv4_0 := (jI_inj.mp hfp4_0).symm
  subst hsb4_0
  have hFv4_1 := hfv4_1.get hOfs4pl
  have hsb4_1 : h1 = fv4_1 := (jI_inj.mp hfp4_1).symm
  subst hsb4_1
  obtain ⟨WB4, cn4, rc4, aw4, fw4, sp4, hWa4, hcf4, hrf4, haf4, hff4, hsf4, hjd⟩ := id hX4_0
  have hjs := hjd.say
  have hFv47 := hcf4.get hOfs4pl
  have hFv44 := hrf4.get hOfs4pl
  have hFv45 := haf4.get hOfs4pl
  have hFv46 := hff4.get hOfs4pl
  have hFv48 := hsf4.get hOfs4pl
  obtain ⟨hN_WB4, hv_WB4⟩ := WT_rngI (r := ((-2147483648), 2147483647)) hW id rfl hWa4
  clear hN_WB4
  refine Jz_if_ne (tgt := 13) jEq.rf dX6_ways_7 (by decide) (fun c7 => ?_) (fun c7 => ?_)
  · refine J_iload_n dX6_ways_13 rfl ?_
    refine Jz_if_eq (tgt := 27) jEq.rf dX6_ways_14 (by decide) (fun c14 => ?_) (fun c14 => ?_)
    · refine J_aload_n dX6_ways_27 rfl ?_
      refine J_get jf_X6_42 dX6_ways_28 hO_a0 hF_pl ?_
      refine J_get jf_X6_225 dX6_ways_31 hOfs4pl hFv45 ?_
      exact J_ret (r := some (.int _)) dX6_ways_34 ⟨rfl, _, rfl, rfl⟩ (⟨⟨hW, he, ⟨_, rfl, (j_rng _).1, (j_rng _).2, (by rcases hjs with ⟨q1, q2, q3, q4, -⟩ | ⟨q1, q2⟩; (first | exact Or.inr ⟨q2, Or.inl ⟨by omega, q3⟩⟩ | exact Or.inr ⟨q2, Or.inr ⟨by omega, q4⟩⟩); omega)⟩⟩, hX4_0, hkp⟩)
    · refine J_aload_n dX6_ways_17 rfl ?_
      refine J_get jf_X6_42 dX6_ways_18 hO_a0 hF_pl ?_
      refine J_get jf_X6_222 dX6_ways_21 hOfs4pl hFv46 ?_
      refine J_goto (tgt := 34) dX6_ways_24 (by decide) ?_
      exact J_ret (r := some (.int _)) dX6_ways_34 ⟨rfl, _, rfl, rfl⟩ (⟨⟨hW, he, ⟨_, rfl, (j_rng _).1, (j_rng _).2, (by rcases hjs with ⟨q1, q2, q3, q4, -⟩ | ⟨q1, q2⟩; (first | exact Or.inr ⟨q2, Or.inl ⟨by omega, q3⟩⟩ | exact Or.inr ⟨q2, Or.inr ⟨by omega, q4⟩⟩); omega)⟩⟩, hX4_0, hkp⟩)
  · refine Jz_bipush (-5) dX6_ways_10 (by decide) (fun y10 he10 => ?_)
    exact J_ret (r := some (.int _)) dX6_ways_12 ⟨rfl, _, rfl, rfl⟩ (⟨⟨hW, he, ⟨_, rfl, (j_rng _).1, (j_rng _).2, (Or.inl ⟨by omega, he10.eq⟩)⟩⟩, hX4_0, hkp⟩)
set_option maxRecDepth 100000 in
set_option maxHeartbeats 8000000 in
theorem w_X6_waysOf_z {tS : jTS} (d : Nat) (V0 : jH) (a0 : Nat) (x1 : Int32) (pl : Nat) (w1 : Int32) (h1 : Int32) (op : Int64) (rc : Int32) (aw : Int32) (fw : Int32) (cn : Int32) (sp : Int32) (wb : Nat) (WB : Nat → Int32) (NO : Nat) (hd : 43 ≤ d) (hW : WT V0) (ha0 : jis V0 (.inr 4) a0) (hr_pl : jfR V0 a0 4 6 pl) (hf_w1 : jfI V0 pl 0 1 w1) (hf_h1 : jfI V0 pl 0 2 h1) (hf_op : jfL V0 pl 0 3 op) (hf_rc : jfI V0 pl 0 4 rc) (hf_aw : jfI V0 pl 0 5 aw) (hf_fw : jfI V0 pl 0 6 fw) (hf_cn : jfI V0 pl 0 7 cn) (hf_sp : jfI V0 pl 0 8 sp) (hr_wb : jfR V0 pl 0 0 wb) (ha_WB : V0 wb = some (.inl (12, 36, .inl WB))) (hp0 : 2 ≤ w1.toInt) (hp1 : w1.toInt ≤ 6) (hp2 : 2 ≤ h1.toInt) (hp3 : h1.toInt ≤ 6) (hp4 : ∀ n : Nat, jbt op n = true → 9 ≤ n ∧ n ≤ 54) (hp5 : jbt op 9 = true) (hp6 : jsum (fun n => (jbt op n).toNat) 64 = NO) (hp7 : NO ≤ 36) (hp8 : jwm (jbt op) (w1.toInt + 8 * h1.toInt).toNat NO cn sp rc aw fw WB) : jTot tS mX6_waysOf d [.ref a0, .int x1] V0 0 0 (fun r V => (jPost [.inr 0, .inl 12] V0 (fun r _ => ∃ y : Int32, r = some (.int y) ∧ ((-2147483648) ≤ y.toInt) ∧ (y.toInt ≤ 2147483647) ∧ ((x1.toInt < 0 ∧ y.toInt = -2) ∨ (0 ≤ x1.toInt ∧ 600000 < (jWY (jbt op) (w1.toInt + 8 * h1.toInt).toNat NO).1 ∧ y.toInt = -5) ∨ (0 ≤ x1.toInt ∧ (jWY (jbt op) (w1.toInt + 8 * h1.toInt).toNat NO).1 ≤ 600000 ∧ ((x1.toInt < 36 ∧ y.toInt = ((jWY (jbt op) (w1.toInt + 8 * h1.toInt).toNat NO).2.1 x1.toInt.toNat : Int)) ∨ (36 ≤ x1.toInt ∧ y.toInt = 0)))))) r V ∧ (∃ (WB2 : Nat → Int32) (cn2 rc2 aw2 fw2 sp2 : Int32), V wb = some (.inl (12, 36, .inl WB2)) ∧ jfI V pl 0 7 cn2 ∧ jfI V pl 0 4 rc2 ∧ jfI V pl 0 5 aw2 ∧ jfI V pl 0 6 fw2 ∧ jfI V pl 0 8 sp2 ∧ jwm (jbt op) (w1.toInt + 8 * h1.toInt).toNat NO cn2 sp2 rc2 aw2 fw2 WB2) ∧ jkc 0 [1, 2, 3] V0 V) := by
  refine jTot.of_J [some (.ref a0), some (.int x1)] moX6_waysOf (Nat.le_of_ble_eq_true rfl) rfl ?_
  have hrx1 := j_rng x1
  have he : jeff [.inr 0, .inl 12] V0 V0 := jeff.refl _ _
  have hkp : jkc 0 [1, 2, 3] V0 V0 := jkc.rf
  obtain ⟨fs_a0, hO_a0, hK_a0⟩ := WT_obj hW id ha0
  have hF_pl := hr_pl.get hO_a0
  obtain ⟨w_pl, hFq_pl, b_pl, hbq_pl, hb_pl⟩ := hK_a0.2 6 (.inr (some (.inr 0))) rfl
  cases hF_pl.symm.trans (hFq_pl.trans (congrArg some hbq_pl))
  obtain ⟨fsp, hOp, hKp⟩ := WT_obj hW id hb_pl
  have hF_w1 := hf_w1.get hOp
  have hF_h1 := hf_h1.get hOp
  have hF_op := hf_op.get hOp
  have hF_rc := hf_rc.get hOp
  have hF_aw := hf_aw.get hOp
  have hF_fw := hf_fw.get hOp
  have hF_cn := hf_cn.get hOp
  have hF_sp := hf_sp.get hOp
  have hF_wb := hr_wb.get hOp
  have hb_wb : jis V0 (.inl 12) wb := ⟨_, ha_WB, rfl⟩
  refine J_iload_n dX6_waysOf_0 rfl ?_
  refine Jz_if_ge (tgt := 7) jEq.rf dX6_waysOf_1 (by decide) (fun c1 => ?_) (fun c1 => ?_)
  · refine J_aload_n dX6_waysOf_7 rfl ?_
    refine J_get jf_X6_42 dX6_waysOf_8 hO_a0 hF_pl ?_
    refine Jw_callV0 (q9 := (RX2, TX2, 9)) moX2_holds jw_ml_X6_220 jw_im_X2_holds jw_se_X2_holds hb_pl rfl rfl dX6_waysOf_11 (w_X2_holds_z (d - 1) _ pl w1 h1 rc aw fw sp cn op wb NO WB (by omega) hW  hb_pl ⟨_, hOp, hF_w1⟩ ⟨_, hOp, hF_h1⟩ ⟨_, hOp, hF_rc⟩ ⟨_, hOp, hF_aw⟩ ⟨_, hOp, hF_fw⟩ ⟨_, hOp, hF_sp⟩ ⟨_, hOp, hF_cn⟩ ⟨_, hOp, hF_op⟩ ⟨_, hOp, hF_wb⟩ ha_WB (by omega) (by omega) (by omega) (by omega) (by omega) (by omega) (by omega) (by omega) (by omega)) (by omega) (Nat.zero_le _) (Nat.zero_le _) (Nat.le_of_ble_eq_true rfl) (fun r11 V11 h11 => ?_)
    obtain ⟨h11, hX11_0, hX11_1, hX11_2, ⟨fv11_0, hfv11_0, hfp11_0⟩, ⟨fv11_1, hfv11_1, hfp11_1⟩⟩ := h11
    obtain ⟨hW, hx11, hr11⟩ := h11
    have he := he.trans (hx11.sub (jsub_of rfl))
    have hkp := hkp.trans hX11_1
    have ha0 := ha0.mono hx11.1
    have hb_pl := hb_pl.mono hx11.1
    have hb_wb := hb_wb.mono hx11.1
    have hO_a0 := hx11.2 _ _ hO_a0 (jnot_of rfl)
    have hK_a0 := hK_a0.mono hx11.1
    obtain ⟨fs11pl, hOfs11pl, hRfs11pl⟩ := hx11.1.keep hOp
    have hKfs11pl : jokO _ (jFs 0) fs11pl := hW _ _ id hOfs11pl
    have hFfs11pl_0 := hRfs11pl _ _ hF_wb
    obtain ⟨y11, rfl, hl11, hh11, hP11_0⟩ := hr11
    have hFv11_0 := hfv11_0.get hOfs11pl
    have hsb11_0 : w1 = fv11_0 := (jI_inj.mp hfp11_0).symm
    subst hsb11_0
    have hFv11_1 := hfv11_1.get hOfs11pl
    have hsb11_1 : h1 = fv11_1 := (jI_inj.mp hfp11_1).symm
    subst hsb11_1
    obtain ⟨WB11, cn11, rc11, aw11, fw11, sp11, hWa11, hcf11, hrf11, haf11, hff11, hsf11, hjd⟩ := id hX11_0
    have hjs := hjd.say
    have hFv117 := hcf11.get hOfs11pl
    have hFv114 := hrf11.get hOfs11pl
    have hFv115 := haf11.get hOfs11pl
    have hFv116 := hff11.get hOfs11pl
    have hFv118 := hsf11.get hOfs11pl
    obtain ⟨hN_WB11, hv_WB11⟩ := WT_rngI (r := ((-2147483648), 2147483647)) hW id rfl hWa11
    clear hN_WB11
    refine Jz_if_eq (tgt := 31) jEq.rf dX6_waysOf_14 (by decide) (fun c14 => ?_) (fun c14 => ?_)
    · refine Jz_bipush (-5) dX6_waysOf_31 (by decide) (fun y31 he31 => ?_)
      exact J_ret (r := some (.int _)) dX6_waysOf_33 ⟨rfl, _, rfl, rfl⟩ (⟨⟨hW, he, ⟨_, rfl, (j_rng _).1, (j_rng _).2, (by rcases hjs with ⟨q1, q2, q3, q4, q5⟩ | ⟨q1, q2⟩; (first | exact Or.inr (Or.inr ⟨by omega, q2, hq25.elim (fun w => Or.inl ⟨w.1, w.2 ▸ q5 _ (by omega)⟩) (fun w => Or.inr ⟨w.1, w.2⟩)⟩) | omega); (first | exact Or.inr (Or.inl ⟨by omega, q2, he31.eq⟩) | omega))⟩⟩, ⟨WB11, cn11, rc11, aw11, fw11, sp11, hWa11, hcf11, hrf11, haf11, hff11, hsf11, fun _ => hjd⟩, hkp⟩)
    · refine J_aload_n dX6_waysOf_17 rfl ?_
      refine J_get jf_X6_42 dX6_waysOf_18 hO_a0 hF_pl ?_
      refine J_get jf_X6_228 dX6_waysOf_21 hOfs11pl hFfs11pl_0 ?_
      refine J_iload_n dX6_waysOf_24 rfl ?_
      refine J_callS2 moX6_cell jw_ml_X6_110 jw_st_X6_cell dX6_waysOf_25 (w_X6_cell_o (d - 1) _ wb x1 hWa11 (WT_rngI (r := (-2147483648, 2147483647)) hW id rfl hWa11).1 rfl (by omega)) (by omega) (Nat.zero_le _) (Nat.zero_le _) (Nat.le_of_ble_eq_true rfl) (fun r25 V25 h25 => ?_)
      obtain ⟨⟨y25, rfl, hq25⟩, hE25⟩ := h25
      have hE25 := hE25.symm
      subst hE25
      · refine J_goto (tgt := 33) dX6_waysOf_28 (by decide) ?_
        exact J_ret (r := some (.int _)) dX6_waysOf_33 ⟨rfl, _, rfl, rfl⟩ (⟨⟨hW, he, ⟨_, rfl, (j_rng _).1, (j_rng _).2, (by rcases hjs with ⟨q1, q2, q3, q4, q5⟩ | ⟨q1, q2⟩; (first | exact Or.inr (Or.inr ⟨by omega, q2, hq25.elim (fun w => Or.inl ⟨w.1, w.2 ▸ q5 _ (by omega)⟩) (fun w => Or.inr ⟨w.1, w.2⟩)⟩) | omega); (first | exact Or.inr (Or.inl ⟨by omega, q2, he31.eq⟩) | omega))⟩⟩, ⟨WB11, cn11, rc11, aw11, fw11, sp11, hWa11, hcf11, hrf11, haf11, hff11, hsf11, fun _ => hjd⟩, hkp⟩)
  · refine Jz_bipush (-2) dX6_waysOf_4 (by decide) (fun y4 he4 => ?_)
    exact J_ret (r := some (.int _)) dX6_waysOf_6 ⟨rfl, _, rfl, rfl⟩ (⟨⟨hW, he, ⟨_, rfl, (j_rng _).1, (j_rng _).2, (Or.inl ⟨by omega, he4.eq⟩)⟩⟩, ⟨WB, cn, rc, aw, fw, sp, ha_WB, hf_cn, hf_rc, hf_aw, hf_fw, hf_sp, hp8⟩, hkp⟩)
set_option maxRecDepth 100000 in
set_option maxHeartbeats 8000000 in
theorem w_X7_next_z {tS : jTS} (d : Nat) (V0 : jH) (a0 : Nat) (x1 : Int32) (x2 : Int32) (wd : Int32) (hg : Int32) (rh : Nat) (op : Nat → Bool) (H43 : Nat → Int32) (hd : 1 ≤ d) (hW : WT V0) (ha0 : jis V0 (.inr 5) a0) (hf_wd : jfI V0 a0 5 23 wd) (hf_hg : jfI V0 a0 5 24 hg) (hr_rh : jfR V0 a0 5 25 rh) (ha_H43 : V0 rh = some (.inl (43, 36, .inl H43))) (hp0 : 2 ≤ wd.toInt) (hp1 : wd.toInt ≤ 6) (hp2 : 2 ≤ hg.toInt) (hp3 : hg.toInt ≤ 6) (hp4 : jopr op wd.toInt.toNat hg.toInt.toNat H43) (hp5 : 0 ≤ x1.toInt) (hp6 : x1.toInt < wd.toInt * hg.toInt) (hp7 : 0 ≤ x2.toInt) (hp8 : x2.toInt ≤ 3) : jTot tS mX7_next d [.ref a0, .int x1, .int x2] V0 0 0 (fun r V => (fun r _ => ∃ y : Int32, r = some (.int y) ∧ ((-1) ≤ y.toInt) ∧ (y.toInt ≤ 35) ∧ ((y.toInt = -1 ∧ op (jdk (jpb9 wd.toInt.toNat x1.toInt.toNat) x2.toInt.toNat) = false) ∨ (0 ≤ y.toInt ∧ y.toInt < wd.toInt * hg.toInt ∧ op (jdk (jpb9 wd.toInt.toNat x1.toInt.toNat) x2.toInt.toNat) = true ∧ jpb9 wd.toInt.toNat y.toInt.toNat = jdk (jpb9 wd.toInt.toNat x1.toInt.toNat) x2.toInt.toNat))) r V ∧ V = V0) := by
  refine jTot.of_J [some (.ref a0), some (.int x1), some (.int x2), none, none] moX7_next (Nat.le_of_ble_eq_true rfl) rfl ?_
  have hrx1 := j_rng x1
  have hrx2 := j_rng x2
  have he : jeff [] V0 V0 := jeff.refl _ _
  obtain ⟨fs_a0, hO_a0, hK_a0⟩ := WT_obj hW id ha0
  have hF_wd := hf_wd.get hO_a0
  have hrwd : 2 ≤ wd.toInt ∧ wd.toInt ≤ 6 := jok_rngI hK_a0 rfl hF_wd
  have hF_hg := hf_hg.get hO_a0
  have hrhg : 2 ≤ hg.toInt ∧ hg.toInt ≤ 6 := jok_rngI hK_a0 rfl hF_hg
  have hF_rh := hr_rh.get hO_a0
  obtain ⟨w_rh, hFq_rh, b_rh, hbq_rh, hb_rh⟩ := hK_a0.2 25 (.inr (some (.inl 43))) rfl
  cases hF_rh.symm.trans (hFq_rh.trans (congrArg some hbq_rh))
  obtain ⟨hN_H43, hv_H43⟩ := WT_rngI (r := (0, 1)) hW id rfl ha_H43
  clear hN_H43
  have hA0 := Int.mul_le_mul (show 2 ≤ wd.toInt by omega) (show 2 ≤ hg.toInt by omega) (by omega) (by omega)
  have hA1 := Int.mul_le_mul (show wd.toInt ≤ 6 by omega) (show hg.toInt ≤ 6 by omega) (by omega) (by omega)
  have hr0 := Int.emod_nonneg x1.toInt (show wd.toInt ≠ 0 by omega)
  have hr1 := Int.emod_lt_of_pos x1.toInt (show 0 < wd.toInt by omega)
  have hd0 := Int.ediv_nonneg hp5 (show 0 ≤ wd.toInt by omega)
  have hd1 : x1.toInt / wd.toInt < hg.toInt := Int.ediv_lt_of_lt_mul (by omega) (by rw [Int.mul_comm]; exact hp6)
  have hbx := jsx_b 0 x2.toInt
  have hby := jsy_b 0 x2.toInt 0
  have hjn := jnxt (p := x1.toInt) (d := x2.toInt) (X := x1.toInt % wd.toInt + jsx 0 x2.toInt) (Y := x1.toInt / wd.toInt + jsy 0 x2.toInt 0) hp4 (by omega) (by omega) (by omega) (by omega) hp6 (by omega) (by omega) rfl rfl
  have hmy := Int.mul_le_mul_of_nonneg_left (show x1.toInt / wd.toInt + jsy 0 x2.toInt 0 ≤ hg.toInt by omega) (show 0 ≤ wd.toInt by omega)
  refine J_iload_n dX7_next_0 rfl ?_
  refine J_aload_n dX7_next_1 rfl ?_
  refine J_get jf_X7_73 dX7_next_2 hO_a0 hF_wd ?_
  refine Jz_iremC jEq.rf jEq.rf dX7_next_5 (by omega) (by omega) (fun y5 he5 => ?_)
  refine Jz_iconst 0 dX7_next_6 (by decide) (fun y6 he6 => ?_)
  refine J_iload_n dX7_next_7 rfl ?_
  refine J_callS2 moX7_stepX jw_ml_X7_112 jw_st_X7_stepX dX7_next_8 (w_X7_stepX_z (d - 1) _ y6 x2 (by omega)   (by (try simp only [he6.eq, true_and, and_true]) <;> omega) (by (try simp only [he6.eq, true_and, and_true]) <;> omega)) (by omega) (Nat.zero_le _) (Nat.zero_le _) (Nat.le_of_ble_eq_true rfl) (fun r8 V8 h8 => ?_)
  obtain ⟨⟨y8, rfl, hl8, hh8, hP8_0⟩, hE8⟩ := h8
  have hE8 := hE8.symm
  subst hE8
  try simp only [he6.eq] at hP8_0
  have hz8 : jEq y8.toInt (jsx (0) (x2.toInt)) := hP8_0
  simp only [hP8_0] at hl8 hh8
  clear hP8_0
  refine Jz_iadd he5 hz8 dX7_next_11 (by omega) (by omega) (fun y11 he11 => ?_)
  refine J_istore_n dX7_next_12 rfl (by decide) ?_
  refine J_iload_n dX7_next_13 rfl ?_
  refine J_aload_n dX7_next_14 rfl ?_
  refine J_get jf_X7_73 dX7_next_15 hO_a0 hF_wd ?_
  refine Jz_idivC jEq.rf jEq.rf dX7_next_18 (by omega) (by omega) (fun y18 he18 => ?_)
  refine Jz_iconst 0 dX7_next_19 (by decide) (fun y19 he19 => ?_)
  refine J_iload_n dX7_next_20 rfl ?_
  refine Jz_iconst 0 dX7_next_21 (by decide) (fun y21 he21 => ?_)
  refine J_callS3 moX7_stepY jw_ml_X7_115 jw_st_X7_stepY dX7_next_22 (w_X7_stepY_z (d - 1) _ y19 x2 y21 (by omega)   (by (try simp only [he19.eq, true_and, and_true]) <;> omega) (by (try simp only [he19.eq, true_and, and_true]) <;> omega)) (by omega) (Nat.zero_le _) (Nat.zero_le _) (Nat.le_of_ble_eq_true rfl) (fun r22 V22 h22 => ?_)
  obtain ⟨⟨y22, rfl, hl22, hh22, hP22_0⟩, hE22⟩ := h22
  have hE22 := hE22.symm
  subst hE22
  try simp only [he19.eq, he21.eq] at hP22_0
  have hz22 : jEq y22.toInt (jsy (0) (x2.toInt) (0)) := hP22_0
  simp only [hP22_0] at hl22 hh22
  clear hP22_0
  refine Jz_iadd he18 hz22 dX7_next_25 (by omega) (by omega) (fun y25 he25 => ?_)
  refine J_istore dX7_next_26 rfl (by decide) ?_
  refine J_iload_n dX7_next_28 rfl ?_
  refine Jz_iconst 0 dX7_next_29 (by decide) (fun y29 he29 => ?_)
  refine J_aload_n dX7_next_30 rfl ?_
  refine J_get jf_X7_73 dX7_next_31 hO_a0 hF_wd ?_
  refine Jz_iconst 1 dX7_next_34 (by decide) (fun y34 he34 => ?_)
  refine Jz_isub jEq.rf he34 dX7_next_35 (by omega) (by omega) (fun y35 he35 => ?_)
  refine J_callS3 moX7_in jw_ml_X7_105 jw_st_X7_in dX7_next_36 (w_X7_in_y (d - 1) _ y11 y29 y35 (by omega)   ) (by omega) (Nat.zero_le _) (Nat.zero_le _) (Nat.le_of_ble_eq_true rfl) (fun r36 V36 h36 => ?_)
  obtain ⟨⟨y36, rfl, hl36, hh36, hP36_0⟩, hE36⟩ := h36
  have hE36 := hE36.symm
  subst hE36
  try simp only [he11.eq, he29.eq, he35.eq] at hP36_0
  refine Jz_if_eq (tgt := 86) jEq.rf dX7_next_39 (by decide) (fun c39 => ?_) (fun c39 => ?_)
  · refine Jz_iconst (-1) dX7_next_86 (by decide) (fun y86 he86 => ?_)
    exact J_ret (r := some (.int _)) dX7_next_87 ⟨rfl, _, rfl, rfl⟩ (⟨⟨_, rfl, (by (try simp only [he86.eq, true_and, and_true]) <;> omega), (by (try simp only [he86.eq, true_and, and_true]) <;> omega), (Or.inl ⟨he86.eq, hjn.2 (fun z => by omega)⟩)⟩, rfl⟩)
  · refine J_iload dX7_next_42 rfl ?_
    refine Jz_iconst 0 dX7_next_44 (by decide) (fun y44 he44 => ?_)
    refine J_aload_n dX7_next_45 rfl ?_
    refine J_get jf_X7_77 dX7_next_46 hO_a0 hF_hg ?_
    refine Jz_iconst 1 dX7_next_49 (by decide) (fun y49 he49 => ?_)
    refine Jz_isub jEq.rf he49 dX7_next_50 (by omega) (by omega) (fun y50 he50 => ?_)
    refine J_callS3 moX7_in jw_ml_X7_105 jw_st_X7_in dX7_next_51 (w_X7_in_y (d - 1) _ y25 y44 y50 (by omega)   ) (by omega) (Nat.zero_le _) (Nat.zero_le _) (Nat.le_of_ble_eq_true rfl) (fun r51 V51 h51 => ?_)
    obtain ⟨⟨y51, rfl, hl51, hh51, hP51_0⟩, hE51⟩ := h51
    have hE51 := hE51.symm
    subst hE51
    try simp only [he25.eq, he44.eq, he50.eq] at hP51_0
    refine Jz_if_eq (tgt := 86) jEq.rf dX7_next_54 (by decide) (fun c54 => ?_) (fun c54 => ?_)
    · refine Jz_iconst (-1) dX7_next_86 (by decide) (fun y86 he86 => ?_)
      exact J_ret (r := some (.int _)) dX7_next_87 ⟨rfl, _, rfl, rfl⟩ (⟨⟨_, rfl, (by (try simp only [he86.eq, true_and, and_true]) <;> omega), (by (try simp only [he86.eq, true_and, and_true]) <;> omega), (Or.inl ⟨he86.eq, hjn.2 (fun z => by omega)⟩)⟩, rfl⟩)
    · refine J_aload_n dX7_next_57 rfl ?_
      refine J_get jf_X7_80 dX7_next_58 hO_a0 hF_rh ?_
      refine J_iload_n dX7_next_61 rfl ?_
      refine J_aload_n dX7_next_62 rfl ?_
      refine J_get jf_X7_73 dX7_next_63 hO_a0 hF_wd ?_
      refine J_iload dX7_next_66 rfl ?_
      have hyy : 0 ≤ x1.toInt / wd.toInt + jsy 0 x2.toInt 0 ∧ x1.toInt / wd.toInt + jsy 0 x2.toInt 0 < hg.toInt := by omega
      have hxx : 0 ≤ x1.toInt % wd.toInt + jsx 0 x2.toInt ∧ x1.toInt % wd.toInt + jsx 0 x2.toInt < wd.toInt := by omega
      have hm0 := Int.mul_nonneg (show 0 ≤ wd.toInt by omega) hyy.1
      have hm1 := Int.mul_le_mul_of_nonneg_left (show x1.toInt / wd.toInt + jsy 0 x2.toInt 0 + 1 ≤ hg.toInt by omega) (show 0 ≤ wd.toInt by omega)
      rw [Int.mul_add, Int.mul_one] at hm1
      refine Jz_imul jEq.rf he25 dX7_next_68 (by omega) (by omega) (fun y68 he68 => ?_)
      refine Jz_iadd he11 he68 dX7_next_69 (by omega) (by omega) (fun y69 he69 => ?_)
      refine Jz_zald (r := (0, 1)) he69 dX7_next_70 ha_H43 rfl hv_H43 (by omega) (by omega) (fun y70 hf70 hl70 hh70 => ?_)
      dsimp only at hl70 hh70
      refine Jz_if_ne (tgt := 86) jEq.rf dX7_next_71 (by decide) (fun c71 => ?_) (fun c71 => ?_)
      · refine Jz_iconst (-1) dX7_next_86 (by decide) (fun y86 he86 => ?_)
        exact J_ret (r := some (.int _)) dX7_next_87 ⟨rfl, _, rfl, rfl⟩ (⟨⟨_, rfl, (by (try simp only [he86.eq, true_and, and_true]) <;> omega), (by (try simp only [he86.eq, true_and, and_true]) <;> omega), (Or.inl ⟨he86.eq, hjn.2 (fun z => by have q := z.2.2.2.2; rw [hf70] at q; omega)⟩)⟩, rfl⟩)
      · refine J_iload_n dX7_next_74 rfl ?_
        refine J_aload_n dX7_next_75 rfl ?_
        refine J_get jf_X7_73 dX7_next_76 hO_a0 hF_wd ?_
        refine J_iload dX7_next_79 rfl ?_
        refine Jz_imul jEq.rf he25 dX7_next_81 (by omega) (by omega) (fun y81 he81 => ?_)
        refine Jz_iadd he11 he81 dX7_next_82 (by omega) (by omega) (fun y82 he82 => ?_)
        refine J_goto (tgt := 87) dX7_next_83 (by decide) ?_
        exact J_ret (r := some (.int _)) dX7_next_87 ⟨rfl, _, rfl, rfl⟩ (⟨⟨_, rfl, (by (try simp only [he82.eq, true_and, and_true]) <;> omega), (by (try simp only [he82.eq, true_and, and_true]) <;> omega), (by rw [he82.eq]; exact Or.inr (hjn.1 ⟨hxx.1, hxx.2, hyy.1, hyy.2, by rw [hf70]; omega⟩))⟩, rfl⟩)
set_option maxRecDepth 100000 in
set_option maxHeartbeats 8000000 in
theorem w_X7_countWays_z {tS : jTS} (d : Nat) (V0 : jH) (a0 : Nat) (wd : Int32) (hg : Int32) (cv : Int32) (sv : Int32) (fv : Int32) (rh : Nat) (wb : Nat) (op : Nat → Bool) (NO : Nat) (H43 : Nat → Int32) (WB : Nat → Int32) (hd : 2 ≤ d) (hW : WT V0) (ha0 : jis V0 (.inr 5) a0) (hf_wd : jfI V0 a0 5 23 wd) (hf_hg : jfI V0 a0 5 24 hg) (hf_cv : jfI V0 a0 5 26 cv) (hf_sv : jfI V0 a0 5 27 sv) (hf_fv : jfI V0 a0 5 28 fv) (hr_rh : jfR V0 a0 5 25 rh) (hr_wb : jfR V0 a0 5 29 wb) (ha_H43 : V0 rh = some (.inl (43, 36, .inl H43))) (ha_WB : V0 wb = some (.inl (30, 36, .inl WB))) (hp0 : 2 ≤ wd.toInt) (hp1 : wd.toInt ≤ 6) (hp2 : 2 ≤ hg.toInt) (hp3 : hg.toInt ≤ 6) (hp4 : jopr op wd.toInt.toNat hg.toInt.toNat H43) (hp5 : jcn 1 H43 (wd.toInt * hg.toInt).toNat = NO) (hp6 : jrm9 op (wd.toInt + 8 * hg.toInt).toNat NO cv sv fv WB) : jTot tS mX7_countWays d [.ref a0] V0 0 0 (fun r V => (jPost [.inr 5, .inl 30, .inl 44, .inl 31, .inl 32] V0 rV) r V ∧ (∃ (WB2 : Nat → Int32) (cv2 sv2 fv2 : Int32), V wb = some (.inl (30, 36, .inl WB2)) ∧ jfI V a0 5 26 cv2 ∧ jfI V a0 5 27 sv2 ∧ jfI V a0 5 28 fv2 ∧ jrd9 op (wd.toInt + 8 * hg.toInt).toNat NO sv2 fv2 WB2) ∧ jkc 5 [0, 23, 24] V0 V ∧ (∃ wd2 : Int32, jfI V a0 5 23 wd2 ∧ (wd2.toInt = wd.toInt)) ∧ (∃ hg2 : Int32, jfI V a0 5 24 hg2 ∧ (hg2.toInt = hg.toInt))) := by
  refine jTot.of_J [some (.ref a0), none, none, none, none] moX7_countWays (Nat.le_of_ble_eq_true rfl) rfl ?_
  have he : jeff [.inr 5, .inl 30, .inl 44, .inl 31, .inl 32] V0 V0 := jeff.refl _ _
  have hkp : jkc 5 [0, 23, 24] V0 V0 := jkc.rf
  obtain ⟨fs_a0, hO_a0, hK_a0⟩ := WT_obj hW id ha0
  have hF_wd := hf_wd.get hO_a0
  have hrwd : 2 ≤ wd.toInt ∧ wd.toInt ≤ 6 := jok_rngI hK_a0 rfl hF_wd
  have hF_hg := hf_hg.get hO_a0
  have hrhg : 2 ≤ hg.toInt ∧ hg.toInt ≤ 6 := jok_rngI hK_a0 rfl hF_hg
  have hF_cv := hf_cv.get hO_a0
  have hrcv : 0 ≤ cv.toInt ∧ cv.toInt ≤ 1 := jok_rngI hK_a0 rfl hF_cv
  have hF_sv := hf_sv.get hO_a0
  have hrsv : 0 ≤ sv.toInt ∧ sv.toInt ≤ 1 := jok_rngI hK_a0 rfl hF_sv
  have hF_fv := hf_fv.get hO_a0
  have hrfv : (-2147483648) ≤ fv.toInt ∧ fv.toInt ≤ 2147483647 := jok_rngI hK_a0 rfl hF_fv
  have hF_rh := hr_rh.get hO_a0
  obtain ⟨w_rh, hFq_rh, b_rh, hbq_rh, hb_rh⟩ := hK_a0.2 25 (.inr (some (.inl 43))) rfl
  cases hF_rh.symm.trans (hFq_rh.trans (congrArg some hbq_rh))
  have hF_wb := hr_wb.get hO_a0
  obtain ⟨w_wb, hFq_wb, b_wb, hbq_wb, hb_wb⟩ := hK_a0.2 29 (.inr (some (.inl 30))) rfl
  cases hF_wb.symm.trans (hFq_wb.trans (congrArg some hbq_wb))
  obtain ⟨hN_H43, hv_H43⟩ := WT_rngI (r := (0, 1)) hW id rfl ha_H43
  clear hN_H43
  obtain ⟨hN_WB, hv_WB⟩ := WT_rngI (r := ((-2147483648), 2147483647)) hW id rfl ha_WB
  clear hN_WB
  have hA0 := Int.mul_le_mul (show 2 ≤ wd.toInt by omega) (show 2 ≤ hg.toInt by omega) (by omega) (by omega)
  have hA1 := Int.mul_le_mul (show wd.toInt ≤ 6 by omega) (show hg.toInt ≤ 6 by omega) (by omega) (by omega)
  refine J_aload_n dX7_countWays_0 rfl ?_
  refine J_get jf_X7_214 dX7_countWays_1 hO_a0 hF_cv ?_
  refine Jz_if_eq (tgt := 8) jEq.rf dX7_countWays_4 (by decide) (fun c4 => ?_) (fun c4 => ?_)
  · refine J_aload_n dX7_countWays_8 rfl ?_
    refine Jz_iconst 1 dX7_countWays_9 (by decide) (fun y9 he9 => ?_)
    refine Jz_putI hO_a0 hW id rfl jf_X7_214 jt_X7_26 he9 dX7_countWays_10 (by omega) (by omega) (fun _ h => ⟨nar_b (by omega) (by omega), fit_b (by omega) (by omega)⟩) (fun V10 fs10 hW hx10 hO10 hS10 hT10 hB10 => ?_)
    have hK10 : jokO _ (jFs 5) fs10 := hW _ _ id hO10
    have hF10_23 := (hT10 23 (by decide)).trans hF_wd
    have hF10_24 := (hT10 24 (by decide)).trans hF_hg
    have hF10_27 := (hT10 27 (by decide)).trans hF_sv
    have hF10_28 := (hT10 28 (by decide)).trans hF_fv
    have hF10_25 := (hT10 25 (by decide)).trans hF_rh
    have hF10_29 := (hT10 29 (by decide)).trans hF_wb
    have he := he.trans (hx10.sub (jsub_of rfl))
    have hkp := hkp.trans (jkc.put hO_a0 hO10 hT10 hB10 (by decide))
    have ha0 := ha0.mono hx10.1
    have hb_rh := hb_rh.mono hx10.1
    have hb_wb := hb_wb.mono hx10.1
    have ha_H43 := hx10.2 _ _ ha_H43 (jnot_of rfl)
    have ha_WB := hx10.2 _ _ ha_WB (jnot_of rfl)
    refine J_aload_n dX7_countWays_13 rfl ?_
    refine Jz_iconst 0 dX7_countWays_14 (by decide) (fun y14 he14 => ?_)
    refine Jz_putI hO10 hW id rfl jf_X7_218 jt_X7_27 he14 dX7_countWays_15 (by omega) (by omega) (fun _ h => ⟨nar_b (by omega) (by omega), fit_b (by omega) (by omega)⟩) (fun V15 fs15 hW hx15 hO15 hS15 hT15 hB15 => ?_)
    have hK15 : jokO _ (jFs 5) fs15 := hW _ _ id hO15
    have hF15_26 := (hT15 26 (by decide)).trans hS10
    have hF15_23 := (hT15 23 (by decide)).trans hF10_23
    have hF15_24 := (hT15 24 (by decide)).trans hF10_24
    have hF15_28 := (hT15 28 (by decide)).trans hF10_28
    have hF15_25 := (hT15 25 (by decide)).trans hF10_25
    have hF15_29 := (hT15 29 (by decide)).trans hF10_29
    have he := he.trans (hx15.sub (jsub_of rfl))
    have hkp := hkp.trans (jkc.put hO10 hO15 hT15 hB15 (by decide))
    have ha0 := ha0.mono hx15.1
    have hb_rh := hb_rh.mono hx15.1
    have hb_wb := hb_wb.mono hx15.1
    have ha_H43 := hx15.2 _ _ ha_H43 (jnot_of rfl)
    have ha_WB := hx15.2 _ _ ha_WB (jnot_of rfl)
    refine J_aload_n dX7_countWays_18 rfl ?_
    refine Jz_iconst 0 dX7_countWays_19 (by decide) (fun y19 he19 => ?_)
    refine Jz_putI hO15 hW id rfl jf_X7_221 jt_X7_28 he19 dX7_countWays_20 (by omega) (by omega) (fun _ _ => ⟨rfl, rfl⟩) (fun V20 fs20 hW hx20 hO20 hS20 hT20 hB20 => ?_)
    have hK20 : jokO _ (jFs 5) fs20 := hW _ _ id hO20
    have hF20_27 := (hT20 27 (by decide)).trans hS15
    have hF20_26 := (hT20 26 (by decide)).trans hF15_26
    have hF20_23 := (hT20 23 (by decide)).trans hF15_23
    have hF20_24 := (hT20 24 (by decide)).trans hF15_24
    have hF20_25 := (hT20 25 (by decide)).trans hF15_25
    have hF20_29 := (hT20 29 (by decide)).trans hF15_29
    have he := he.trans (hx20.sub (jsub_of rfl))
    have hkp := hkp.trans (jkc.put hO15 hO20 hT20 hB20 (by decide))
    have ha0 := ha0.mono hx20.1
    have hb_rh := hb_rh.mono hx20.1
    have hb_wb := hb_wb.mono hx20.1
    have ha_H43 := hx20.2 _ _ ha_H43 (jnot_of rfl)
    have ha_WB := hx20.2 _ _ ha_WB (jnot_of rfl)
    refine Jz_iconst 0 dX7_countWays_23 (by decide) (fun y23 he23 => ?_)
    refine J_istore_n dX7_countWays_24 rfl (by decide) ?_
    obtain ⟨w25t30, hF25t30, b25t30, rfl, hb25t30⟩ := hK20.2 30 (.inr (some (.inl 44))) rfl
    obtain ⟨n25tb25t30, f25tb25t30, hA25tb25t30, hN25tb25t30, hM25tb25t30, hv25tb25t30⟩ := WT_arrI (r := (0, 1)) hW id rfl hb25t30
    obtain rfl := hM25tb25t30 36 rfl
    clear hN25tb25t30 hM25tb25t30
    have L25 : ∀ (N : Nat) (V : jH) (i1n25 : Int32) (F44n25 : Nat → Int32) (F30n25 : Nat → Int32), WT V → jeff [.inr 5, .inl 30, .inl 44, .inl 31, .inl 32] V0 V → (jis V (.inr 5) a0) → (jis V (.inl 43) rh) → (jis V (.inl 30) wb) → (jis V (.inl 44) b25t30) → (jkc 5 [0, 23, 24] V0 V) → (V a0 = some (.inr (5, fs20))) → (jokO V (jFs 5) fs20) → (V b25t30 = some (.inl (44, 36, .inl F44n25))) → (V wb = some (.inl (30, 36, .inl F30n25))) → (V rh = some (.inl (43, 36, .inl H43))) → (0 ≤ i1n25.toInt) → (∀ k : Nat, (k : Int) < i1n25.toInt → (F44n25 k).toInt = 0) → (∀ k : Nat, (k : Int) < i1n25.toInt → (F30n25 k).toInt = 0) → (300 - i1n25.toInt).toNat < N → J tS mX7_countWays d 25 [some (.ref a0), some (.int i1n25), none, none, none] [] V 0 0 (fun r V => (jPost [.inr 5, .inl 30, .inl 44, .inl 31, .inl 32] V0 rV) r V ∧ (∃ (WB2 : Nat → Int32) (cv2 sv2 fv2 : Int32), V wb = some (.inl (30, 36, .inl WB2)) ∧ jfI V a0 5 26 cv2 ∧ jfI V a0 5 27 sv2 ∧ jfI V a0 5 28 fv2 ∧ jrd9 op (wd.toInt + 8 * hg.toInt).toNat NO sv2 fv2 WB2) ∧ jkc 5 [0, 23, 24] V0 V ∧ (∃ wd2 : Int32, jfI V a0 5 23 wd2 ∧ (wd2.toInt = wd.toInt)) ∧ (∃ hg2 : Int32, jfI V a0 5 24 hg2 ∧ (hg2.toInt = hg.toInt))) := by
      intro N
      induction N with
      | zero => intro V i1n25 F44n25 F30n25 hW he ha0 hb_rh hb_wb hb25t30 hkp hO20 hK20 hAF44n25 hAF30n25 ha_H43 hi1 hz hw0 hm; exact absurd hm (Nat.not_lt_zero _)
      | succ N ih =>
        intro V i1n25 F44n25 F30n25 hW he ha0 hb_rh hb_wb hb25t30 hkp hO20 hK20 hAF44n25 hAF30n25 ha_H43 hi1 hz hw0 hm
        have ih25 := ih
        have hri1 := j_rng i1n25
        obtain ⟨hNF44n25, hvF44n25⟩ := WT_rngI (r := (0, 1)) hW id rfl hAF44n25
        clear hNF44n25
        obtain ⟨hNF30n25, hvF30n25⟩ := WT_rngI (r := ((-2147483648), 2147483647)) hW id rfl hAF30n25
        clear hNF30n25
        refine J_iload_n dX7_countWays_25 rfl ?_
        refine Jz_bipush 36 dX7_countWays_26 (by decide) (fun y26 he26 => ?_)
        refine Jz_icmp_ge (tgt := 51) jEq.rf he26 dX7_countWays_28 (by decide) (fun c28 => ?_) (fun c28 => ?_)
        · refine Jz_iconst 0 dX7_countWays_51 (by decide) (fun y51 he51 => ?_)
          refine J_istore_n dX7_countWays_52 rfl (by decide) ?_
          refine Jz_iconst 0 dX7_countWays_53 (by decide) (fun y53 he53 => ?_)
          refine J_istore_n dX7_countWays_54 rfl (by decide) ?_
          refine J_aload_n dX7_countWays_55 rfl ?_
          refine Jw_callV0 (q9 := (RX7, TX7, 34)) moX7_open jw_ml_X7_224 jw_im_X7_open jw_se_X7_open ha0 rfl rfl dX7_countWays_56 (w_X7_open_z (d - 1) _ a0 wd hg rh H43 (by omega) hW  ha0 ⟨_, hO20, hF20_23⟩ ⟨_, hO20, hF20_24⟩ ⟨_, hO20, hF20_25⟩ ha_H43 (by omega) (by omega) (by omega) (by omega)) (by omega) (Nat.zero_le _) (Nat.zero_le _) (Nat.le_of_ble_eq_true rfl) (fun r56 V56 h56 => ?_)
          obtain ⟨⟨y56, rfl, hl56, hh56, hP56_0⟩, hE56⟩ := h56
          have hE56 := hE56.symm
          subst hE56
          clear hl56 hh56
          refine J_istore_n dX7_countWays_59 rfl (by decide) ?_
          refine J_aload_n dX7_countWays_60 rfl ?_
          obtain ⟨w61, hF61, b61, rfl, hb61⟩ := hK20.2 31 (.inr (some (.inl 31))) rfl
          refine J_get jf_X7_89 dX7_countWays_61 hO20 hF61 ?_
          refine Jz_iconst 0 dX7_countWays_64 (by decide) (fun y64 he64 => ?_)
          refine Jz_iconst 0 dX7_countWays_65 (by decide) (fun y65 he65 => ?_)
          obtain ⟨n66, f66, hA66, hN66, hM66, hv66⟩ := WT_arrI (r := (0, 35)) hW id rfl hb61
          obtain rfl := hM66 37 rfl
          clear hN66 hM66
          refine Jz_iast (r := (0, 35)) he64 he65 hW id dX7_countWays_66 hA66 rfl rfl (by omega) (by omega) (by omega) (by omega) (fun V66 G66 hW hx66 hA66 hp66 ho66 => ?_)
          obtain ⟨hN66, hv66⟩ := WT_rngI (r := (0, 35)) hW id rfl hA66
          clear hN66
          have he := he.trans (hx66.sub (jsub_of rfl))
          have hkp := hkp.trans (jkc.of hx66 (jnot_of rfl))
          have ha0 := ha0.mono hx66.1
          have hb_rh := hb_rh.mono hx66.1
          have hb_wb := hb_wb.mono hx66.1
          have hb25t30 := hb25t30.mono hx66.1
          have hb61 := hb61.mono hx66.1
          have hO20 := hx66.2 _ _ hO20 (jnot_of rfl)
          have hK20 := hK20.mono hx66.1
          have hAF44n25 := hx66.2 _ _ hAF44n25 (jnot_of rfl)
          have hAF30n25 := hx66.2 _ _ hAF30n25 (jnot_of rfl)
          have ha_H43 := hx66.2 _ _ ha_H43 (jnot_of rfl)
          refine J_aload_n dX7_countWays_67 rfl ?_
          refine J_get jf_X7_86 dX7_countWays_68 hO20 hF25t30 ?_
          refine Jz_iconst 0 dX7_countWays_71 (by decide) (fun y71 he71 => ?_)
          refine Jz_iconst 1 dX7_countWays_72 (by decide) (fun y72 he72 => ?_)
          refine Jz_zast (r := (0, 1)) he71 he72 hW id dX7_countWays_73 hAF44n25 rfl rfl (by omega) (by omega) (by omega) (by omega) (fun _ h => vp_nar_b (by omega) (by omega)) (fun V73 G73 hW hx73 hA73 hp73 ho73 => ?_)
          obtain ⟨hN73, hv73⟩ := WT_rngI (r := (0, 1)) hW id rfl hA73
          clear hN73
          have he := he.trans (hx73.sub (jsub_of rfl))
          have hkp := hkp.trans (jkc.of hx73 (jnot_of rfl))
          have ha0 := ha0.mono hx73.1
          have hb_rh := hb_rh.mono hx73.1
          have hb_wb := hb_wb.mono hx73.1
          have hb25t30 := hb25t30.mono hx73.1
          have hb61 := hb61.mono hx73.1
          have hO20 := hx73.2 _ _ hO20 (jnot_of rfl)
          have hK20 := hK20.mono hx73.1
          have hAF30n25 := hx73.2 _ _ hAF30n25 (jnot_of rfl)
          have ha_H43 := hx73.2 _ _ ha_H43 (jnot_of rfl)
          have hA66 := hx73.2 _ _ hA66 (jnot_of rfl)
          refine J_aload_n dX7_countWays_74 rfl ?_
          obtain ⟨w75, hF75, b75, rfl, hb75⟩ := hK20.2 32 (.inr (some (.inl 32))) rfl
          refine J_get jf_X7_92 dX7_countWays_75 hO20 hF75 ?_
          refine Jz_iconst 0 dX7_countWays_78 (by decide) (fun y78 he78 => ?_)
          refine Jz_iconst (-1) dX7_countWays_79 (by decide) (fun y79 he79 => ?_)
          obtain ⟨n80, f80, hA80, hN80, hM80, hv80⟩ := WT_arrI (r := (-1, 4)) hW id rfl hb75
          obtain rfl := hM80 37 rfl
          clear hN80 hM80
          refine Jz_iast (r := ((-1), 4)) he78 he79 hW id dX7_countWays_80 hA80 rfl rfl (by omega) (by omega) (by omega) (by omega) (fun V80 G80 hW hx80 hA80 hp80 ho80 => ?_)
          obtain ⟨hN80, hv80⟩ := WT_rngI (r := ((-1), 4)) hW id rfl hA80
          clear hN80
          have he := he.trans (hx80.sub (jsub_of rfl))
          have hkp := hkp.trans (jkc.of hx80 (jnot_of rfl))
          have ha0 := ha0.mono hx80.1
          have hb_rh := hb_rh.mono hx80.1
          have hb_wb := hb_wb.mono hx80.1
          have hb25t30 := hb25t30.mono hx80.1
          have hb61 := hb61.mono hx80.1
          have hb75 := hb75.mono hx80.1
          have hO20 := hx80.2 _ _ hO20 (jnot_of rfl)
          have hK20 := hK20.mono hx80.1
          have hAF30n25 := hx80.2 _ _ hAF30n25 (jnot_of rfl)
          have ha_H43 := hx80.2 _ _ ha_H43 (jnot_of rfl)
          have hA66 := hx80.2 _ _ hA66 (jnot_of rfl)
          have hA73 := hx80.2 _ _ hA73 (jnot_of rfl)
          have L81 : ∀ (N : Nat) (V : jH) (i1n81 : Int32) (i2n81 : Int32) (gs81a0 : List Value) (g28n81 : Int32) (F44n81 : Nat → Int32) (F31n81 : Nat → Int32) (F32n81 : Nat → Int32) (F30n81 : Nat → Int32), WT V → jeff [.inr 5, .inl 30, .inl 44, .inl 31, .inl 32] V0 V → (jis V (.inr 5) a0) → (jis V (.inl 43) rh) → (jis V (.inl 30) wb) → (jis V (.inl 44) b25t30) → (jis V (.inl 31) b61) → (jis V (.inl 32) b75) → (jkc 5 [0, 23, 24] V0 V) → (V a0 = some (.inr (5, gs81a0))) → (gs81a0[28]? = some (.int g28n81)) → (gs81a0[27]? = some (.int y14)) → (gs81a0[26]? = some (.int y9)) → (gs81a0[23]? = some (.int wd)) → (gs81a0[24]? = some (.int hg)) → (gs81a0[25]? = some (.ref rh)) → (gs81a0[29]? = some (.ref wb)) → (gs81a0[30]? = some (.ref b25t30)) → (gs81a0[31]? = some (.ref b61)) → (gs81a0[32]? = some (.ref b75)) → (V b25t30 = some (.inl (44, 36, .inl F44n81))) → (V b61 = some (.inl (31, 37, .inl F31n81))) → (V b75 = some (.inl (32, 37, .inl F32n81))) → (V wb = some (.inl (30, 36, .inl F30n81))) → (V rh = some (.inl (43, 36, .inl H43))) → (-1 ≤ i2n81.toInt ∧ i2n81.toInt ≤ 35) → (0 ≤ i1n81.toInt ∧ i1n81.toInt ≤ 600000) → (∀ k : Nat, (k : Int) ≤ i2n81.toInt → -1 ≤ (F32n81 k).toInt ∧ (F32n81 k).toInt ≤ 3) → (∀ k : Nat, (k : Int) ≤ i2n81.toInt → 0 ≤ (F31n81 k).toInt ∧ (F31n81 k).toInt ≤ 35 ∧ ¬ (F44n81 (F31n81 k).toInt.toNat).toInt = 0) → (∀ i j : Nat, i < j → (j : Int) ≤ i2n81.toInt → ¬ (F31n81 i).toInt = (F31n81 j).toInt) → ((jcn 0 F44n81 36 : Int) = i2n81.toInt + 1) → (∀ k : Nat, (k : Int) ≤ i2n81.toInt → (F31n81 k).toInt < wd.toInt * hg.toInt) → (jgn wd.toInt.toNat (wd.toInt * hg.toInt) F44n81 F31n81 i2n81.toInt) → (jwS op (wd.toInt + 8 * hg.toInt).toNat NO wd.toInt.toNat i2n81.toInt i1n81.toInt g28n81 F30n81 F31n81 F32n81) → ((600001 - i1n81.toInt) * 1000 + (i2n81.toInt + 1) * 10 + (7 - (F32n81 i2n81.toInt.toNat).toInt)).toNat < N → J tS mX7_countWays d 81 [some (.ref a0), some (.int i1n81), some (.int i2n81), some (.int y56), none] [] V 0 0 (fun r V => (jPost [.inr 5, .inl 30, .inl 44, .inl 31, .inl 32] V0 rV) r V ∧ (∃ (WB2 : Nat → Int32) (cv2 sv2 fv2 : Int32), V wb = some (.inl (30, 36, .inl WB2)) ∧ jfI V a0 5 26 cv2 ∧ jfI V a0 5 27 sv2 ∧ jfI V a0 5 28 fv2 ∧ jrd9 op (wd.toInt + 8 * hg.toInt).toNat NO sv2 fv2 WB2) ∧ jkc 5 [0, 23, 24] V0 V ∧ (∃ wd2 : Int32, jfI V a0 5 23 wd2 ∧ (wd2.toInt = wd.toInt)) ∧ (∃ hg2 : Int32, jfI V a0 5 24 hg2 ∧ (hg2.toInt = hg.toInt))) := by
            intro N
            induction N with
            | zero => intro V i1n81 i2n81 gs81a0 g28n81 F44n81 F31n81 F32n81 F30n81 hW he ha0 hb_rh hb_wb hb25t30 hb61 hb75 hkp hOgs81a0 hFgs81a0_28 hFgs81a0_27 hFgs81a0_26 hFgs81a0_23 hFgs81a0_24 hFgs81a0_25 hFgs81a0_29 hFgs81a0_30 hFgs81a0_31 hFgs81a0_32 hAF44n81 hAF31n81 hAF32n81 hAF30n81 ha_H43 hd hall htry hway hdis hcnt hwA hgn hst hm; exact absurd hm (Nat.not_lt_zero _)
            | succ N ih =>
              intro V i1n81 i2n81 gs81a0 g28n81 F44n81 F31n81 F32n81 F30n81 hW he ha0 hb_rh hb_wb hb25t30 hb61 hb75 hkp hOgs81a0 hFgs81a0_28 hFgs81a0_27 hFgs81a0_26 hFgs81a0_23 hFgs81a0_24 hFgs81a0_25 hFgs81a0_29 hFgs81a0_30 hFgs81a0_31 hFgs81a0_32 hAF44n81 hAF31n81 hAF32n81 hAF30n81 ha_H43 hd hall htry hway hdis hcnt hwA hgn hst hm
              have ih81 := ih
              have hri1 := j_rng i1n81
              have hri2 := j_rng i2n81
              have hKgs81a0 : jokO V (jFs 5) gs81a0 := hW _ _ id hOgs81a0
              have hrgg28n81 : (-2147483648) ≤ g28n81.toInt ∧ g28n81.toInt ≤ 2147483647 := jok_rngI hKgs81a0 rfl hFgs81a0_28
              obtain ⟨hNF44n81, hvF44n81⟩ := WT_rngI (r := (0, 1)) hW id rfl hAF44n81
              clear hNF44n81
              obtain ⟨hNF31n81, hvF31n81⟩ := WT_rngI (r := (0, 35)) hW id rfl hAF31n81
              clear hNF31n81
              obtain ⟨hNF32n81, hvF32n81⟩ := WT_rngI (r := ((-1), 4)) hW id rfl hAF32n81
              clear hNF32n81
              obtain ⟨hNF30n81, hvF30n81⟩ := WT_rngI (r := ((-2147483648), 2147483647)) hW id rfl hAF30n81
              clear hNF30n81
              have hnum := hst.num
              refine J_iload_n dX7_countWays_81 rfl ?_
              refine Jz_if_lt (tgt := 248) jEq.rf dX7_countWays_82 (by decide) (fun c82 => ?_) (fun c82 => ?_)
              · exact J_ret (r := none) dX7_countWays_248 ⟨rfl, rfl⟩ (⟨⟨hW, he, rfl⟩, ⟨F30n81, y9, y14, g28n81, hAF30n81, ⟨_, hOgs81a0, hFgs81a0_26⟩, ⟨_, hOgs81a0, hFgs81a0_27⟩, ⟨_, hOgs81a0, hFgs81a0_28⟩, (by obtain ⟨⟨q1, q2⟩, q3, -⟩ := hst.last (by omega); exact Or.inr ⟨he14.eq, by omega, q2, q3⟩)⟩, hkp, ⟨_, ⟨_, hOgs81a0, hFgs81a0_23⟩, (by omega)⟩, ⟨_, ⟨_, hOgs81a0, hFgs81a0_24⟩, (by omega)⟩⟩)
              · refine J_aload_n dX7_countWays_85 rfl ?_
                refine J_get jf_X7_92 dX7_countWays_86 hOgs81a0 hFgs81a0_32 ?_
                refine J_iload_n dX7_countWays_89 rfl ?_
                refine J_dup2 dX7_countWays_90 rfl rfl ?_
                refine Jz_iald (r := ((-1), 4)) jEq.rf dX7_countWays_91 hAF32n81 rfl hvF32n81 (by omega) (by omega) (fun y91 hf91 hl91 hh91 => ?_)
                dsimp only at hl91 hh91
                have hb91 := htry i2n81.toInt.toNat (by omega)
                rw [hf91] at hb91
                refine Jz_iconst 1 dX7_countWays_92 (by decide) (fun y92 he92 => ?_)
                refine Jz_iadd jEq.rf he92 dX7_countWays_93 (by omega) (by omega) (fun y93 he93 => ?_)
                refine Jz_iast (r := ((-1), 4)) jEq.rf he93 hW id dX7_countWays_94 hAF32n81 rfl rfl (by omega) (by omega) (by omega) (by omega) (fun V94 G94 hW hx94 hA94 hp94 ho94 => ?_)
                obtain ⟨hN94, hv94⟩ := WT_rngI (r := ((-1), 4)) hW id rfl hA94
                clear hN94
                have he := he.trans (hx94.sub (jsub_of rfl))
                have hkp := hkp.trans (jkc.of hx94 (jnot_of rfl))
                have ha0 := ha0.mono hx94.1
                have hb_rh := hb_rh.mono hx94.1
                have hb_wb := hb_wb.mono hx94.1
                have hb25t30 := hb25t30.mono hx94.1
                have hb61 := hb61.mono hx94.1
                have hb75 := hb75.mono hx94.1
                have hOgs81a0 := hx94.2 _ _ hOgs81a0 (jnot_of rfl)
                have hKgs81a0 := hKgs81a0.mono hx94.1
                have hAF44n81 := hx94.2 _ _ hAF44n81 (jnot_of rfl)
                have hAF31n81 := hx94.2 _ _ hAF31n81 (jnot_of rfl)
                have hAF30n81 := hx94.2 _ _ hAF30n81 (jnot_of rfl)
                have ha_H43 := hx94.2 _ _ ha_H43 (jnot_of rfl)
                refine J_aload_n dX7_countWays_95 rfl ?_
                refine J_get jf_X7_92 dX7_countWays_96 hOgs81a0 hFgs81a0_32 ?_
                refine J_iload_n dX7_countWays_99 rfl ?_
                refine Jz_iald (r := ((-1), 4)) jEq.rf dX7_countWays_100 hA94 rfl hv94 (by omega) (by omega) (fun y100 hf100 hl100 hh100 => ?_)
                dsimp only at hl100 hh100
                clear hl100 hh100
                have he100 : jEq y100.toInt (y91.toInt + 1) := by rw [← hf100, hp94]; exact he93
                refine Jz_iconst 4 dX7_countWays_101 (by decide) (fun y101 he101 => ?_)
                have hm94 := congrArg Int32.toInt hp94
                have hmT : (F32n81 i2n81.toInt.toNat).toInt = y91.toInt := by rw [hf91]
                refine Jz_icmp_ne (tgt := 123) he100 he101 dX7_countWays_102 (by decide) (fun c102 => ?_) (fun c102 => ?_)
                · refine J_aload_n dX7_countWays_123 rfl ?_
                  refine J_aload_n dX7_countWays_124 rfl ?_
                  refine J_get jf_X7_89 dX7_countWays_125 hOgs81a0 hFgs81a0_31 ?_
                  refine J_iload_n dX7_countWays_128 rfl ?_
                  refine Jz_iald (r := (0, 35)) jEq.rf dX7_countWays_129 hAF31n81 rfl hvF31n81 (by omega) (by omega) (fun y129 hf129 hl129 hh129 => ?_)
                  dsimp only at hl129 hh129
                  have hb129 := hway i2n81.toInt.toNat (by omega)
                  rw [hf129] at hb129
                  refine J_aload_n dX7_countWays_130 rfl ?_
                  refine J_get jf_X7_92 dX7_countWays_131 hOgs81a0 hFgs81a0_32 ?_
                  refine J_iload_n dX7_countWays_134 rfl ?_
                  refine Jz_iald (r := ((-1), 4)) jEq.rf dX7_countWays_135 hA94 rfl hv94 (by omega) (by omega) (fun y135 hf135 hl135 hh135 => ?_)
                  dsimp only at hl135 hh135
                  clear hl135 hh135
                  have he135 : jEq y135.toInt (y91.toInt + 1) := by rw [← hf135, hp94]; exact he93
                  have hm129 : (F31n81 i2n81.toInt.toNat).toInt = y129.toInt := by rw [hf129]
                  refine Jw_callV2 (q9 := (RX7, TX7, 34)) moX7_next jw_ml_X7_227 jw_im_X7_next jw_se_X7_next ha0 rfl rfl dX7_countWays_136 (w_X7_next_z (d - 1) _ a0 y129 y135 wd hg rh op H43 (by omega) hW  ha0 ⟨_, hOgs81a0, hFgs81a0_23⟩ ⟨_, hOgs81a0, hFgs81a0_24⟩ ⟨_, hOgs81a0, hFgs81a0_25⟩ ha_H43 (by omega) (by omega) (by omega) (by omega) hp4 (by omega) (by have q := hwA i2n81.toInt.toNat (by omega); omega) (by rw [he135.eq]; omega) (by rw [he135.eq]; omega)) (by omega) (Nat.zero_le _) (Nat.zero_le _) (Nat.le_of_ble_eq_true rfl) (fun r136 V136 h136 => ?_)
                  obtain ⟨⟨y136, rfl, hl136, hh136, hP136_0⟩, hE136⟩ := h136
                  have hE136 := hE136.symm
                  subst hE136
                  try simp only [he135.eq] at hP136_0
                  refine J_istore dX7_countWays_139 rfl (by decide) ?_
                  refine J_iload dX7_countWays_141 rfl ?_
                  refine Jz_iconst (-1) dX7_countWays_143 (by decide) (fun y143 he143 => ?_)
                  refine Jz_icmp_eq (tgt := 245) jEq.rf he143 dX7_countWays_144 (by decide) (fun c144 => ?_) (fun c144 => ?_)
                  · have hnc : ¬ (op (jdk (jpb9 wd.toInt.toNat (F31n81 i2n81.toInt.toNat).toInt.toNat) ((F32n81 i2n81.toInt.toNat).toInt + 1).toNat) = true ∧ ¬ jdk (jpb9 wd.toInt.toNat (F31n81 i2n81.toInt.toNat).toInt.toNat) ((F32n81 i2n81.toInt.toNat).toInt + 1).toNat ∈ jpL wd.toInt.toNat F31n81 (i2n81.toInt.toNat + 1)) := fun z => by rcases hP136_0 with ⟨-, q⟩ | ⟨q, -⟩; rw [(show jdk (jpb9 wd.toInt.toNat y129.toInt.toNat) (y91.toInt + 1).toNat = jdk (jpb9 wd.toInt.toNat (F31n81 i2n81.toInt.toNat).toInt.toNat) ((F32n81 i2n81.toInt.toNat).toInt + 1).toNat by rw [hf129, hf91]), z.1] at q; exact absurd q (by decide); omega
                    refine J_goto (tgt := 81) dX7_countWays_245 (by decide) ?_
                    have hm0 : (F32n81 i2n81.toInt.toNat).toInt = y91.toInt := by rw [hf91]
                    have hm1 : (G94 i2n81.toInt.toNat).toInt = y91.toInt + 1 := by rw [hp94, he93.eq]
                    refine J.mask [true, true, true, true, false] ?_
                    exact ih81 _ i1n81 i2n81 gs81a0 g28n81 F44n81 F31n81 G94 F30n81 hW he ha0 hb_rh hb_wb hb25t30 hb61 hb75 hkp hOgs81a0 hFgs81a0_28 hFgs81a0_27 hFgs81a0_26 hFgs81a0_23 hFgs81a0_24 hFgs81a0_25 hFgs81a0_29 hFgs81a0_30 hFgs81a0_31 hFgs81a0_32 hAF44n81 hAF31n81 hA94 hAF30n81 ha_H43 (by omega) (by omega) (fun k hk => (Nat.decEq k i2n81.toInt.toNat).byCases (fun hq => by rw [hq, hp94, he93.eq]; omega) (fun hq => by rw [ho94 k hq]; exact htry k (by omega))) hway hdis (by omega) hwA hgn (hst.same (by omega) (by omega) (by omega) (by have q := congrArg Int32.toInt hp94; have q9 := he93.eq; omega) ho94 (jch_no hnc)) (by omega)
                  · have hyn : op (jdk (jpb9 wd.toInt.toNat (F31n81 i2n81.toInt.toNat).toInt.toNat) ((F32n81 i2n81.toInt.toNat).toInt + 1).toNat) = true ∧ jpb9 wd.toInt.toNat y136.toInt.toNat = jdk (jpb9 wd.toInt.toNat (F31n81 i2n81.toInt.toNat).toInt.toNat) ((F32n81 i2n81.toInt.toNat).toInt + 1).toNat ∧ 0 ≤ y136.toInt ∧ y136.toInt < wd.toInt * hg.toInt := by rcases hP136_0 with ⟨q, -⟩ | ⟨q1, q2, q3, q4⟩; omega; rw [(show jdk (jpb9 wd.toInt.toNat y129.toInt.toNat) (y91.toInt + 1).toNat = jdk (jpb9 wd.toInt.toNat (F31n81 i2n81.toInt.toNat).toInt.toNat) ((F32n81 i2n81.toInt.toNat).toInt + 1).toNat by rw [hf129, hf91])] at q3 q4; exact ⟨q3, q4, q1, q2⟩
                    refine J_aload_n dX7_countWays_147 rfl ?_
                    refine J_get jf_X7_86 dX7_countWays_148 hOgs81a0 hFgs81a0_30 ?_
                    refine J_iload dX7_countWays_151 rfl ?_
                    refine Jz_zald (r := (0, 1)) jEq.rf dX7_countWays_153 hAF44n81 rfl hvF44n81 (by omega) (by omega) (fun y153 hf153 hl153 hh153 => ?_)
                    dsimp only at hl153 hh153
                    refine Jz_if_ne (tgt := 245) jEq.rf dX7_countWays_154 (by decide) (fun c154 => ?_) (fun c154 => ?_)
                    · have hin : ¬ ¬ jpb9 wd.toInt.toNat y136.toInt.toNat ∈ jpL wd.toInt.toNat F31n81 (i2n81.toInt + 1).toNat := fun z => by have q := (hgn y136.toInt.toNat (by omega)).mpr z; rw [hf153] at q; exact c154 q
                      have hnc : ¬ (op (jdk (jpb9 wd.toInt.toNat (F31n81 i2n81.toInt.toNat).toInt.toNat) ((F32n81 i2n81.toInt.toNat).toInt + 1).toNat) = true ∧ ¬ jdk (jpb9 wd.toInt.toNat (F31n81 i2n81.toInt.toNat).toInt.toNat) ((F32n81 i2n81.toInt.toNat).toInt + 1).toNat ∈ jpL wd.toInt.toNat F31n81 (i2n81.toInt.toNat + 1)) := fun z => hin (by rw [hyn.2.1, show (i2n81.toInt + 1).toNat = i2n81.toInt.toNat + 1 by omega]; exact z.2)
                      refine J_goto (tgt := 81) dX7_countWays_245 (by decide) ?_
                      have hm0 : (F32n81 i2n81.toInt.toNat).toInt = y91.toInt := by rw [hf91]
                      have hm1 : (G94 i2n81.toInt.toNat).toInt = y91.toInt + 1 := by rw [hp94, he93.eq]
                      refine J.mask [true, true, true, true, false] ?_
                      exact ih81 _ i1n81 i2n81 gs81a0 g28n81 F44n81 F31n81 G94 F30n81 hW he ha0 hb_rh hb_wb hb25t30 hb61 hb75 hkp hOgs81a0 hFgs81a0_28 hFgs81a0_27 hFgs81a0_26 hFgs81a0_23 hFgs81a0_24 hFgs81a0_25 hFgs81a0_29 hFgs81a0_30 hFgs81a0_31 hFgs81a0_32 hAF44n81 hAF31n81 hA94 hAF30n81 ha_H43 (by omega) (by omega) (fun k hk => (Nat.decEq k i2n81.toInt.toNat).byCases (fun hq => by rw [hq, hp94, he93.eq]; omega) (fun hq => by rw [ho94 k hq]; exact htry k (by omega))) hway hdis (by omega) hwA hgn (hst.same (by omega) (by omega) (by omega) (by have q := congrArg Int32.toInt hp94; have q9 := he93.eq; omega) ho94 (jch_no hnc)) (by omega)
                    · have hlt := jcn_lt (c := 0) (F := F44n81) (k := y136.toInt.toNat) (by rw [hf153]; exact c154) 36 (by omega)
                      have hyc : jch op (jpL wd.toInt.toNat F31n81 (i2n81.toInt.toNat + 1)) ((F32n81 i2n81.toInt.toNat).toInt + 1).toNat = some (jpb9 wd.toInt.toNat y136.toInt.toNat :: jpL wd.toInt.toNat F31n81 (i2n81.toInt.toNat + 1)) := by rw [hyn.2.1]; exact jch_yes hyn.1 (by have q := (hgn y136.toInt.toNat (by omega)).mp (by rw [hf153]; exact c154); rw [hyn.2.1, show (i2n81.toInt + 1).toNat = i2n81.toInt.toNat + 1 by omega] at q; exact q)
                      refine Jz_iinc 1 dX7_countWays_157 rfl rfl (by decide) jEq.rf (by decide) (by omega) (by omega) (fun y157 he157 => ?_)
                      refine J_iload_n dX7_countWays_160 rfl ?_
                      refine Jz_ldc 600000 jw_k_X7_180 dX7_countWays_161 (by decide) (fun y161 he161 => ?_)
                      refine Jz_icmp_le (tgt := 172) he157 he161 dX7_countWays_163 (by decide) (fun c163 => ?_) (fun c163 => ?_)
                      · refine Jz_iinc 1 dX7_countWays_172 rfl rfl (by decide) jEq.rf (by decide) (by omega) (by omega) (fun y172 he172 => ?_)
                        refine J_aload_n dX7_countWays_175 rfl ?_
                        refine J_get jf_X7_89 dX7_countWays_176 hOgs81a0 hFgs81a0_31 ?_
                        refine J_iload_n dX7_countWays_179 rfl ?_
                        refine J_iload dX7_countWays_180 rfl ?_
                        refine Jz_iast (r := (0, 35)) he172 jEq.rf hW id dX7_countWays_182 hAF31n81 rfl rfl (by omega) (by omega) (by omega) (by omega) (fun V182 G182 hW hx182 hA182 hp182 ho182 => ?_)
                        obtain ⟨hN182, hv182⟩ := WT_rngI (r := (0, 35)) hW id rfl hA182
                        clear hN182
                        have he := he.trans (hx182.sub (jsub_of rfl))
                        have hkp := hkp.trans (jkc.of hx182 (jnot_of rfl))
                        have ha0 := ha0.mono hx182.1
                        have hb_rh := hb_rh.mono hx182.1
                        have hb_wb := hb_wb.mono hx182.1
                        have hb25t30 := hb25t30.mono hx182.1
                        have hb61 := hb61.mono hx182.1
                        have hb75 := hb75.mono hx182.1
                        have hOgs81a0 := hx182.2 _ _ hOgs81a0 (jnot_of rfl)
                        have hKgs81a0 := hKgs81a0.mono hx182.1
                        have hAF44n81 := hx182.2 _ _ hAF44n81 (jnot_of rfl)
                        have hAF30n81 := hx182.2 _ _ hAF30n81 (jnot_of rfl)
                        have ha_H43 := hx182.2 _ _ ha_H43 (jnot_of rfl)
                        have hA94 := hx182.2 _ _ hA94 (jnot_of rfl)
                        refine J_aload_n dX7_countWays_183 rfl ?_
                        refine J_get jf_X7_86 dX7_countWays_184 hOgs81a0 hFgs81a0_30 ?_
                        refine J_iload dX7_countWays_187 rfl ?_
                        refine Jz_iconst 1 dX7_countWays_189 (by decide) (fun y189 he189 => ?_)
                        refine Jz_zast (r := (0, 1)) jEq.rf he189 hW id dX7_countWays_190 hAF44n81 rfl rfl (by omega) (by omega) (by omega) (by omega) (fun _ h => vp_nar_b (by omega) (by omega)) (fun V190 G190 hW hx190 hA190 hp190 ho190 => ?_)
                        obtain ⟨hN190, hv190⟩ := WT_rngI (r := (0, 1)) hW id rfl hA190
                        clear hN190
                        have he := he.trans (hx190.sub (jsub_of rfl))
                        have hkp := hkp.trans (jkc.of hx190 (jnot_of rfl))
                        have ha0 := ha0.mono hx190.1
                        have hb_rh := hb_rh.mono hx190.1
                        have hb_wb := hb_wb.mono hx190.1
                        have hb25t30 := hb25t30.mono hx190.1
                        have hb61 := hb61.mono hx190.1
                        have hb75 := hb75.mono hx190.1
                        have hOgs81a0 := hx190.2 _ _ hOgs81a0 (jnot_of rfl)
                        have hKgs81a0 := hKgs81a0.mono hx190.1
                        have hAF30n81 := hx190.2 _ _ hAF30n81 (jnot_of rfl)
                        have ha_H43 := hx190.2 _ _ ha_H43 (jnot_of rfl)
                        have hA94 := hx190.2 _ _ hA94 (jnot_of rfl)
                        have hA182 := hx190.2 _ _ hA182 (jnot_of rfl)
                        refine J_aload_n dX7_countWays_191 rfl ?_
                        refine J_get jf_X7_92 dX7_countWays_192 hOgs81a0 hFgs81a0_32 ?_
                        refine J_iload_n dX7_countWays_195 rfl ?_
                        refine Jz_iconst (-1) dX7_countWays_196 (by decide) (fun y196 he196 => ?_)
                        refine Jz_iast (r := ((-1), 4)) he172 he196 hW id dX7_countWays_197 hA94 rfl rfl (by omega) (by omega) (by omega) (by omega) (fun V197 G197 hW hx197 hA197 hp197 ho197 => ?_)
                        obtain ⟨hN197, hv197⟩ := WT_rngI (r := ((-1), 4)) hW id rfl hA197
                        clear hN197
                        have he := he.trans (hx197.sub (jsub_of rfl))
                        have hkp := hkp.trans (jkc.of hx197 (jnot_of rfl))
                        have ha0 := ha0.mono hx197.1
                        have hb_rh := hb_rh.mono hx197.1
                        have hb_wb := hb_wb.mono hx197.1
                        have hb25t30 := hb25t30.mono hx197.1
                        have hb61 := hb61.mono hx197.1
                        have hb75 := hb75.mono hx197.1
                        have hOgs81a0 := hx197.2 _ _ hOgs81a0 (jnot_of rfl)
                        have hKgs81a0 := hKgs81a0.mono hx197.1
                        have hAF30n81 := hx197.2 _ _ hAF30n81 (jnot_of rfl)
                        have ha_H43 := hx197.2 _ _ ha_H43 (jnot_of rfl)
                        have hA182 := hx197.2 _ _ hA182 (jnot_of rfl)
                        have hA190 := hx197.2 _ _ hA190 (jnot_of rfl)
                        refine J_iload dX7_countWays_198 rfl ?_
                        refine J_aload_n dX7_countWays_200 rfl ?_
                        refine J_get jf_X7_73 dX7_countWays_201 hOgs81a0 hFgs81a0_23 ?_
                        refine J_aload_n dX7_countWays_204 rfl ?_
                        refine J_get jf_X7_77 dX7_countWays_205 hOgs81a0 hFgs81a0_24 ?_
                        refine Jz_imul jEq.rf jEq.rf dX7_countWays_208 (by omega) (by omega) (fun y208 he208 => ?_)
                        refine Jz_iconst 1 dX7_countWays_209 (by decide) (fun y209 he209 => ?_)
                        refine Jz_isub he208 he209 dX7_countWays_210 (by omega) (by omega) (fun y210 he210 => ?_)
                        refine Jz_icmp_ne (tgt := 245) jEq.rf he210 dX7_countWays_211 (by decide) (fun c211 => ?_) (fun c211 => ?_)
                        · refine J_goto (tgt := 81) dX7_countWays_245 (by decide) ?_
                          have hm0 : (F32n81 i2n81.toInt.toNat).toInt = y91.toInt := by rw [hf91]
                          have hm1 : (G197 (i2n81.toInt + 1).toNat).toInt = -1 := by rw [hp197, he196.eq]
                          have hup := jcn_up (c := 0) (show (F44n81 y136.toInt.toNat).toInt = 0 by rw [hf153]; exact c154) (by rw [hp190, he189.eq]; decide) ho190 36 (by omega)
                          have hgl := jgoal (p := y136.toInt) (w := wd.toInt) (h := hg.toInt) (by omega) (by omega) (by omega) (by omega)
                          have hqq : ∀ b : jW9, jwq b i1n81.toInt g28n81 F30n81 → jwq (jws (wd.toInt + 8 * hg.toInt).toNat NO (jpb9 wd.toInt.toNat y136.toInt.toNat :: jpL wd.toInt.toNat F31n81 (i2n81.toInt.toNat + 1)) b) (i1n81.toInt + 1) g28n81 F30n81 := fun b q => q.no (fun z => absurd (hgl.mpr z) (by omega))
                          refine J.mask [true, true, true, true, false] ?_
                          exact ih81 _ y157 y172 gs81a0 g28n81 G190 G182 G197 F30n81 hW he ha0 hb_rh hb_wb hb25t30 hb61 hb75 hkp hOgs81a0 hFgs81a0_28 hFgs81a0_27 hFgs81a0_26 hFgs81a0_23 hFgs81a0_24 hFgs81a0_25 hFgs81a0_29 hFgs81a0_30 hFgs81a0_31 hFgs81a0_32 hA190 hA182 hA197 hAF30n81 ha_H43 (by (try simp only [he157.eq, he172.eq, true_and, and_true]) <;> omega) (by (try simp only [he157.eq, he172.eq, true_and, and_true]) <;> omega) (fun k hk => by rw [he172.eq] at hk; exact (Nat.decEq k (i2n81.toInt + 1).toNat).byCases (fun hq => by rw [hq, hp197, he196.eq]; omega) (fun hq => by rw [ho197 k hq]; exact (Nat.decEq k i2n81.toInt.toNat).byCases (fun hq => by rw [hq, hp94, he93.eq]; omega) (fun hq => by rw [ho94 k hq]; exact htry k (by omega)))) (fun k hk => by rw [he172.eq] at hk; exact (Nat.decEq k (i2n81.toInt + 1).toNat).byCases (fun hq => by rw [hq, hp182, hp190, he189.eq]; omega) (fun hq => by rw [ho182 k hq]; have h1 := hway k (by omega); exact ⟨h1.1, h1.2.1, (Nat.decEq (F31n81 k).toInt.toNat y136.toInt.toNat).byCases (fun h9 => by rw [h9, hp190, he189.eq]; decide) (fun h9 => by rw [ho190 _ h9]; exact h1.2.2)⟩)) (fun i j h1 h2 => by rw [he172.eq] at h2; exact (Nat.decEq j (i2n81.toInt + 1).toNat).byCases (fun hq => by rw [hq, hp182, ho182 i (by omega)]; intro h9; have h3 := (hway i (by omega)).2.2; rw [h9, hf153] at h3; exact h3 c154) (fun hq => by rw [ho182 j hq, ho182 i (by omega)]; exact hdis i j h1 (by omega))) (by (try simp only [he157.eq, he172.eq, true_and, and_true]) <;> omega) (fun k hk => by rw [he172.eq] at hk; exact (Nat.decEq k (i2n81.toInt + 1).toNat).byCases (fun hq => by rw [hq, hp182]; omega) (fun hq => by rw [ho182 k hq]; exact hwA k (by omega))) (by rw [he172.eq]; exact hgn.down (y := y136) (by omega) (by omega) (by omega) (by omega) hp182 ho182 (by rw [hp190, he189.eq]; decide) ho190) (by rw [he172.eq, he157.eq]; exact hst.down (m := (jpb9 wd.toInt.toNat y136.toInt.toNat :: jpL wd.toInt.toNat F31n81 (i2n81.toInt.toNat + 1))) (by omega) (by omega) (by omega) (by rw [ho197 _ (by omega)]; exact (by have q := congrArg Int32.toInt hp94; have q9 := he93.eq; omega)) (fun i hi => by rw [ho197 _ (by omega), ho94 _ (by omega)]) (by rw [show i2n81.toInt.toNat + 1 = (i2n81.toInt + 1).toNat by omega, hp197]; exact he196.eq) hyc (by omega) (fun i hi => ho182 i (by omega)) (by show jpb9 _ _ :: jpL _ _ _ = _; rw [show i2n81.toInt.toNat + 1 = (i2n81.toInt + 1).toNat by omega, hp182, jpL_congr (W' := F31n81) _ (fun i hi => ho182 i (by omega))]) hqq) (by (try simp only [he157.eq, he172.eq, true_and, and_true]) <;> omega)
                        · refine J_aload_n dX7_countWays_214 rfl ?_
                          refine J_get jf_X7_83 dX7_countWays_215 hOgs81a0 hFgs81a0_29 ?_
                          refine J_iload_n dX7_countWays_218 rfl ?_
                          refine J_dup2 dX7_countWays_219 rfl rfl ?_
                          refine Jz_iald (r := ((-2147483648), 2147483647)) he172 dX7_countWays_220 hAF30n81 rfl hvF30n81 (by omega) (by omega) (fun y220 hf220 hl220 hh220 => ?_)
                          dsimp only at hl220 hh220
                          clear hl220 hh220
                          have hwl := hnum.2.2.2 (i2n81.toInt + 1).toNat (by omega)
                          have hm220 : (F30n81 (i2n81.toInt + 1).toNat).toInt = y220.toInt := by rw [hf220]
                          refine Jz_iconst 1 dX7_countWays_221 (by decide) (fun y221 he221 => ?_)
                          refine Jz_iadd jEq.rf he221 dX7_countWays_222 (by omega) (by omega) (fun y222 he222 => ?_)
                          refine Jz_iast (r := ((-2147483648), 2147483647)) he172 he222 hW id dX7_countWays_223 hAF30n81 rfl rfl (by omega) (by omega) (by omega) (by omega) (fun V223 G223 hW hx223 hA223 hp223 ho223 => ?_)
                          obtain ⟨hN223, hv223⟩ := WT_rngI (r := ((-2147483648), 2147483647)) hW id rfl hA223
                          clear hN223
                          have he := he.trans (hx223.sub (jsub_of rfl))
                          have hkp := hkp.trans (jkc.of hx223 (jnot_of rfl))
                          have ha0 := ha0.mono hx223.1
                          have hb_rh := hb_rh.mono hx223.1
                          have hb_wb := hb_wb.mono hx223.1
                          have hb25t30 := hb25t30.mono hx223.1
                          have hb61 := hb61.mono hx223.1
                          have hb75 := hb75.mono hx223.1
                          have hOgs81a0 := hx223.2 _ _ hOgs81a0 (jnot_of rfl)
                          have hKgs81a0 := hKgs81a0.mono hx223.1
                          have ha_H43 := hx223.2 _ _ ha_H43 (jnot_of rfl)
                          have hA182 := hx223.2 _ _ hA182 (jnot_of rfl)
                          have hA190 := hx223.2 _ _ hA190 (jnot_of rfl)
                          have hA197 := hx223.2 _ _ hA197 (jnot_of rfl)
                          refine J_aload_n dX7_countWays_224 rfl ?_
                          refine J_dup dX7_countWays_225 rfl ?_
                          refine J_get jf_X7_221 dX7_countWays_226 hOgs81a0 hFgs81a0_28 ?_
                          refine J_iload_n dX7_countWays_229 rfl ?_
                          refine Jz_iconst 1 dX7_countWays_230 (by decide) (fun y230 he230 => ?_)
                          refine Jz_iadd he172 he230 dX7_countWays_231 (by omega) (by omega) (fun y231 he231 => ?_)
                          refine J_iload_n dX7_countWays_232 rfl ?_
                          have K241 : ∀ (t0k241 : Int32), ((t0k241.toInt = 1 ∧ (i2n81.toInt + 1) + 1 = (NO : Int)) ∨ (t0k241.toInt = 0 ∧ ¬ (i2n81.toInt + 1) + 1 = (NO : Int))) → J tS mX7_countWays d 241 [some (.ref a0), some (.int y157), some (.int y172), some (.int y56), some (.int y136)] [.int t0k241, .int g28n81, .ref a0] V223 0 0 (fun r V => (jPost [.inr 5, .inl 30, .inl 44, .inl 31, .inl 32] V0 rV) r V ∧ (∃ (WB2 : Nat → Int32) (cv2 sv2 fv2 : Int32), V wb = some (.inl (30, 36, .inl WB2)) ∧ jfI V a0 5 26 cv2 ∧ jfI V a0 5 27 sv2 ∧ jfI V a0 5 28 fv2 ∧ jrd9 op (wd.toInt + 8 * hg.toInt).toNat NO sv2 fv2 WB2) ∧ jkc 5 [0, 23, 24] V0 V ∧ (∃ wd2 : Int32, jfI V a0 5 23 wd2 ∧ (wd2.toInt = wd.toInt)) ∧ (∃ hg2 : Int32, jfI V a0 5 24 hg2 ∧ (hg2.toInt = hg.toInt))) := by
                            intro  t0k241     hk241_0
                            refine Jz_iadd jEq.rf jEq.rf dX7_countWays_241 (by omega) (by omega) (fun y241 he241 => ?_)
                            refine Jz_putI hOgs81a0 hW id rfl jf_X7_221 jt_X7_28 he241 dX7_countWays_242 (by omega) (by omega) (fun _ _ => ⟨rfl, rfl⟩) (fun V242 fs242 hW hx242 hO242 hS242 hT242 hB242 => ?_)
                            have hK242 : jokO _ (jFs 5) fs242 := hW _ _ id hO242
                            have hF242_27 := (hT242 27 (by decide)).trans hFgs81a0_27
                            have hF242_26 := (hT242 26 (by decide)).trans hFgs81a0_26
                            have hF242_23 := (hT242 23 (by decide)).trans hFgs81a0_23
                            have hF242_24 := (hT242 24 (by decide)).trans hFgs81a0_24
                            have hF242_25 := (hT242 25 (by decide)).trans hFgs81a0_25
                            have hF242_29 := (hT242 29 (by decide)).trans hFgs81a0_29
                            have hF242_30 := (hT242 30 (by decide)).trans hFgs81a0_30
                            have hF242_31 := (hT242 31 (by decide)).trans hFgs81a0_31
                            have hF242_32 := (hT242 32 (by decide)).trans hFgs81a0_32
                            have he := he.trans (hx242.sub (jsub_of rfl))
                            have hkp := hkp.trans (jkc.put hOgs81a0 hO242 hT242 hB242 (by decide))
                            have ha0 := ha0.mono hx242.1
                            have hb_rh := hb_rh.mono hx242.1
                            have hb_wb := hb_wb.mono hx242.1
                            have hb25t30 := hb25t30.mono hx242.1
                            have hb61 := hb61.mono hx242.1
                            have hb75 := hb75.mono hx242.1
                            have ha_H43 := hx242.2 _ _ ha_H43 (jnot_of rfl)
                            have hA182 := hx242.2 _ _ hA182 (jnot_of rfl)
                            have hA190 := hx242.2 _ _ hA190 (jnot_of rfl)
                            have hA197 := hx242.2 _ _ hA197 (jnot_of rfl)
                            have hA223 := hx242.2 _ _ hA223 (jnot_of rfl)
                            refine J_goto (tgt := 81) dX7_countWays_245 (by decide) ?_
                            have hm0 : (F32n81 i2n81.toInt.toNat).toInt = y91.toInt := by rw [hf91]
                            have hm1 : (G197 (i2n81.toInt + 1).toNat).toInt = -1 := by rw [hp197, he196.eq]
                            have hup := jcn_up (c := 0) (show (F44n81 y136.toInt.toNat).toInt = 0 by rw [hf153]; exact c154) (by rw [hp190, he189.eq]; decide) ho190 36 (by omega)
                            have hgl := jgoal (p := y136.toInt) (w := wd.toInt) (h := hg.toInt) (by omega) (by omega) (by omega) (by omega)
                            have hqq : ∀ b : jW9, jwq b i1n81.toInt g28n81 F30n81 → jwq (jws (wd.toInt + 8 * hg.toInt).toNat NO (jpb9 wd.toInt.toNat y136.toInt.toNat :: jpL wd.toInt.toNat F31n81 (i2n81.toInt.toNat + 1)) b) (i1n81.toInt + 1) y241 G223 := fun b q => q.yes (j := (i2n81.toInt + 1).toNat) (hgl.mp (by omega)) (by rw [List.length_cons, jpL_len]; omega) (by omega) (by rw [List.length_cons, jpL_len, he241.eq]; rcases hk241_0 with ⟨w1, w2⟩ | ⟨w1, w2⟩; exact Or.inl ⟨by omega, by omega⟩; exact Or.inr ⟨by omega, by omega⟩) (by rw [hp223, he222.eq, hf220]) ho223
                            refine J.mask [true, true, true, true, false] ?_
                            exact ih81 _ y157 y172 fs242 y241 G190 G182 G197 G223 hW he ha0 hb_rh hb_wb hb25t30 hb61 hb75 hkp hO242 hS242 hF242_27 hF242_26 hF242_23 hF242_24 hF242_25 hF242_29 hF242_30 hF242_31 hF242_32 hA190 hA182 hA197 hA223 ha_H43 (by (try simp only [he157.eq, he172.eq, he241.eq, true_and, and_true]) <;> omega) (by (try simp only [he157.eq, he172.eq, he241.eq, true_and, and_true]) <;> omega) (fun k hk => by rw [he172.eq] at hk; exact (Nat.decEq k (i2n81.toInt + 1).toNat).byCases (fun hq => by rw [hq, hp197, he196.eq]; omega) (fun hq => by rw [ho197 k hq]; exact (Nat.decEq k i2n81.toInt.toNat).byCases (fun hq => by rw [hq, hp94, he93.eq]; omega) (fun hq => by rw [ho94 k hq]; exact htry k (by omega)))) (fun k hk => by rw [he172.eq] at hk; exact (Nat.decEq k (i2n81.toInt + 1).toNat).byCases (fun hq => by rw [hq, hp182, hp190, he189.eq]; omega) (fun hq => by rw [ho182 k hq]; have h1 := hway k (by omega); exact ⟨h1.1, h1.2.1, (Nat.decEq (F31n81 k).toInt.toNat y136.toInt.toNat).byCases (fun h9 => by rw [h9, hp190, he189.eq]; decide) (fun h9 => by rw [ho190 _ h9]; exact h1.2.2)⟩)) (fun i j h1 h2 => by rw [he172.eq] at h2; exact (Nat.decEq j (i2n81.toInt + 1).toNat).byCases (fun hq => by rw [hq, hp182, ho182 i (by omega)]; intro h9; have h3 := (hway i (by omega)).2.2; rw [h9, hf153] at h3; exact h3 c154) (fun hq => by rw [ho182 j hq, ho182 i (by omega)]; exact hdis i j h1 (by omega))) (by (try simp only [he157.eq, he172.eq, he241.eq, true_and, and_true]) <;> omega) (fun k hk => by rw [he172.eq] at hk; exact (Nat.decEq k (i2n81.toInt + 1).toNat).byCases (fun hq => by rw [hq, hp182]; omega) (fun hq => by rw [ho182 k hq]; exact hwA k (by omega))) (by rw [he172.eq]; exact hgn.down (y := y136) (by omega) (by omega) (by omega) (by omega) hp182 ho182 (by rw [hp190, he189.eq]; decide) ho190) (by rw [he172.eq, he157.eq]; exact hst.down (m := (jpb9 wd.toInt.toNat y136.toInt.toNat :: jpL wd.toInt.toNat F31n81 (i2n81.toInt.toNat + 1))) (by omega) (by omega) (by omega) (by rw [ho197 _ (by omega)]; exact (by have q := congrArg Int32.toInt hp94; have q9 := he93.eq; omega)) (fun i hi => by rw [ho197 _ (by omega), ho94 _ (by omega)]) (by rw [show i2n81.toInt.toNat + 1 = (i2n81.toInt + 1).toNat by omega, hp197]; exact he196.eq) hyc (by omega) (fun i hi => ho182 i (by omega)) (by show jpb9 _ _ :: jpL _ _ _ = _; rw [show i2n81.toInt.toNat + 1 = (i2n81.toInt + 1).toNat by omega, hp182, jpL_congr (W' := F31n81) _ (fun i hi => ho182 i (by omega))]) hqq) (by (try simp only [he157.eq, he172.eq, he241.eq, true_and, and_true]) <;> omega)
                          refine Jz_icmp_ne (tgt := 240) he231 jEq.rf dX7_countWays_233 (by decide) (fun c233 => ?_) (fun c233 => ?_)
                          · refine Jz_iconst 0 dX7_countWays_240 (by decide) (fun y240 he240 => ?_)
                            exact K241  y240  (by (try simp only [he240.eq, true_and, and_true]) <;> omega)
                          · refine Jz_iconst 1 dX7_countWays_236 (by decide) (fun y236 he236 => ?_)
                            refine J_goto (tgt := 241) dX7_countWays_237 (by decide) ?_
                            exact K241  y236  (by (try simp only [he236.eq, true_and, and_true]) <;> omega)
                      · refine J_aload_n dX7_countWays_166 rfl ?_
                        refine Jz_iconst 1 dX7_countWays_167 (by decide) (fun y167 he167 => ?_)
                        refine Jz_putI hOgs81a0 hW id rfl jf_X7_218 jt_X7_27 he167 dX7_countWays_168 (by omega) (by omega) (fun _ h => ⟨nar_b (by omega) (by omega), fit_b (by omega) (by omega)⟩) (fun V168 fs168 hW hx168 hO168 hS168 hT168 hB168 => ?_)
                        have hK168 : jokO _ (jFs 5) fs168 := hW _ _ id hO168
                        have hF168_28 := (hT168 28 (by decide)).trans hFgs81a0_28
                        have hF168_26 := (hT168 26 (by decide)).trans hFgs81a0_26
                        have hF168_23 := (hT168 23 (by decide)).trans hFgs81a0_23
                        have hF168_24 := (hT168 24 (by decide)).trans hFgs81a0_24
                        have hF168_25 := (hT168 25 (by decide)).trans hFgs81a0_25
                        have hF168_29 := (hT168 29 (by decide)).trans hFgs81a0_29
                        have hF168_30 := (hT168 30 (by decide)).trans hFgs81a0_30
                        have hF168_31 := (hT168 31 (by decide)).trans hFgs81a0_31
                        have hF168_32 := (hT168 32 (by decide)).trans hFgs81a0_32
                        have he := he.trans (hx168.sub (jsub_of rfl))
                        have hkp := hkp.trans (jkc.put hOgs81a0 hO168 hT168 hB168 (by decide))
                        have ha0 := ha0.mono hx168.1
                        have hb_rh := hb_rh.mono hx168.1
                        have hb_wb := hb_wb.mono hx168.1
                        have hb25t30 := hb25t30.mono hx168.1
                        have hb61 := hb61.mono hx168.1
                        have hb75 := hb75.mono hx168.1
                        have hAF44n81 := hx168.2 _ _ hAF44n81 (jnot_of rfl)
                        have hAF31n81 := hx168.2 _ _ hAF31n81 (jnot_of rfl)
                        have hAF30n81 := hx168.2 _ _ hAF30n81 (jnot_of rfl)
                        have ha_H43 := hx168.2 _ _ ha_H43 (jnot_of rfl)
                        have hA94 := hx168.2 _ _ hA94 (jnot_of rfl)
                        exact J_ret (r := none) dX7_countWays_171 ⟨rfl, rfl⟩ (⟨⟨hW, he, rfl⟩, ⟨F30n81, y9, y167, g28n81, hAF30n81, ⟨_, hO168, hF168_26⟩, ⟨_, hO168, hS168⟩, ⟨_, hO168, hF168_28⟩, Or.inl ⟨by rw [he167.eq]; decide, by have q := hst.spent (by omega) (fun i hi => (htry i (by omega)).1) (by omega) hyc (by omega); omega⟩⟩, hkp, ⟨_, ⟨_, hO168, hF168_23⟩, (by omega)⟩, ⟨_, ⟨_, hO168, hF168_24⟩, (by omega)⟩⟩)
                · refine J_aload_n dX7_countWays_105 rfl ?_
                  refine J_get jf_X7_86 dX7_countWays_106 hOgs81a0 hFgs81a0_30 ?_
                  refine J_aload_n dX7_countWays_109 rfl ?_
                  refine J_get jf_X7_89 dX7_countWays_110 hOgs81a0 hFgs81a0_31 ?_
                  refine J_iload_n dX7_countWays_113 rfl ?_
                  refine Jz_iald (r := (0, 35)) jEq.rf dX7_countWays_114 hAF31n81 rfl hvF31n81 (by omega) (by omega) (fun y114 hf114 hl114 hh114 => ?_)
                  dsimp only at hl114 hh114
                  have hb114 := hway i2n81.toInt.toNat (by omega)
                  rw [hf114] at hb114
                  refine Jz_iconst 0 dX7_countWays_115 (by decide) (fun y115 he115 => ?_)
                  refine Jz_zast (r := (0, 1)) jEq.rf he115 hW id dX7_countWays_116 hAF44n81 rfl rfl (by omega) (by omega) (by omega) (by omega) (fun _ h => vp_nar_b (by omega) (by omega)) (fun V116 G116 hW hx116 hA116 hp116 ho116 => ?_)
                  obtain ⟨hN116, hv116⟩ := WT_rngI (r := (0, 1)) hW id rfl hA116
                  clear hN116
                  have he := he.trans (hx116.sub (jsub_of rfl))
                  have hkp := hkp.trans (jkc.of hx116 (jnot_of rfl))
                  have ha0 := ha0.mono hx116.1
                  have hb_rh := hb_rh.mono hx116.1
                  have hb_wb := hb_wb.mono hx116.1
                  have hb25t30 := hb25t30.mono hx116.1
                  have hb61 := hb61.mono hx116.1
                  have hb75 := hb75.mono hx116.1
                  have hOgs81a0 := hx116.2 _ _ hOgs81a0 (jnot_of rfl)
                  have hKgs81a0 := hKgs81a0.mono hx116.1
                  have hAF31n81 := hx116.2 _ _ hAF31n81 (jnot_of rfl)
                  have hAF30n81 := hx116.2 _ _ hAF30n81 (jnot_of rfl)
                  have ha_H43 := hx116.2 _ _ ha_H43 (jnot_of rfl)
                  have hA94 := hx116.2 _ _ hA94 (jnot_of rfl)
                  refine Jz_iinc (-1) dX7_countWays_117 rfl rfl (by decide) jEq.rf (by decide) (by omega) (by omega) (fun y117 he117 => ?_)
                  refine J_goto (tgt := 81) dX7_countWays_120 (by decide) ?_
                  have hm0 : (F32n81 i2n81.toInt.toNat).toInt = y91.toInt := by rw [hf91]
                  have hm1 : -1 ≤ (G94 (i2n81.toInt + (-1)).toNat).toInt := (Int.decLt i2n81.toInt 1).byCases (fun hz => by rw [show (i2n81.toInt + (-1)).toNat = i2n81.toInt.toNat by omega, hp94, he93.eq]; omega) (fun hz => by rw [ho94 _ (by omega)]; exact (htry _ (by omega)).1)
                  have hdn := jcn_dn (c := 0) hb114.2.2 (by rw [hp116, he115.eq]) ho116 (n := 36) (by omega)
                  refine J.mask [true, true, true, true, false] ?_
                  exact ih81 _ i1n81 y117 gs81a0 g28n81 G116 F31n81 G94 F30n81 hW he ha0 hb_rh hb_wb hb25t30 hb61 hb75 hkp hOgs81a0 hFgs81a0_28 hFgs81a0_27 hFgs81a0_26 hFgs81a0_23 hFgs81a0_24 hFgs81a0_25 hFgs81a0_29 hFgs81a0_30 hFgs81a0_31 hFgs81a0_32 hA116 hAF31n81 hA94 hAF30n81 ha_H43 (by (try simp only [he117.eq, true_and, and_true]) <;> omega) (by (try simp only [he117.eq, true_and, and_true]) <;> omega) (fun k hk => by rw [he117.eq] at hk; rw [ho94 k (by omega)]; exact htry k (by omega)) (fun k hk => by rw [he117.eq] at hk; have h1 := hway k (by omega); have h2 := hdis k i2n81.toInt.toNat (by omega) (by omega); rw [hf114] at h2; rw [ho116 _ (by omega)]; exact h1) (fun i j h1 h2 => by rw [he117.eq] at h2; exact hdis i j h1 (by omega)) (by (try simp only [he117.eq, true_and, and_true]) <;> omega) (fun k hk => by rw [he117.eq] at hk; exact hwA k (by omega)) (by rw [he117.eq]; exact hgn.up (k := y114.toInt.toNat) (by omega) (by omega) (by omega) (by rw [hf114]) (fun i hi e => hdis i i2n81.toInt.toNat (by omega) (by omega) (by have q1 := hway i (by omega); have q2 := hway i2n81.toInt.toNat (by omega); omega)) (by rw [hp116]; exact he115.eq) ho116) (by rw [he117.eq]; exact hst.out (by omega) (by have q := congrArg Int32.toInt hp94; have q9 := he93.eq; omega) ho94) (by (try simp only [he117.eq, true_and, and_true]) <;> omega)
          refine J.mask [true, true, true, true, false] ?_
          exact L81 _ _ y51 y53 fs20 y19 G73 G66 G80 F30n25 hW he ha0 hb_rh hb_wb hb25t30 hb61 hb75 hkp hO20 hS20 hF20_27 hF20_26 hF20_23 hF20_24 hF20_25 hF20_29 hF25t30 hF61 hF75 hA73 hA66 hA80 hAF30n25 ha_H43 (by (try simp only [he51.eq, he53.eq, he19.eq, true_and, and_true]) <;> omega) (by (try simp only [he51.eq, he53.eq, he19.eq, true_and, and_true]) <;> omega) (fun k hk => by rw [he53.eq] at hk; rw [show k = Int.toNat 0 by omega, hp80, he79.eq]; omega) (fun k hk => by rw [he53.eq] at hk; rw [show k = Int.toNat 0 by omega, hp66, he65.eq, hp73, he72.eq]; omega) (fun i j h1 h2 => by rw [he53.eq] at h2; omega) (by rw [he53.eq, jcn_one (n := 36) (show ¬ (G73 (Int.toNat 0)).toInt = 0 by rw [hp73, he72.eq]; decide) (fun k h1 h2 => by rw [ho73 k (by show k ≠ 0; omega)]; exact hz k (by omega)) (by omega)]; rfl) (fun k hk => by rw [he53.eq] at hk; rw [show k = Int.toNat 0 by omega, hp66, he65.eq]; omega) (by rw [he53.eq]; exact jgn.init (by omega) (by omega) ((congrArg Int32.toInt hp66).trans he65.eq) (fun z => absurd ((congrArg Int32.toInt hp73).symm.trans z) (by rw [he72.eq]; decide)) (fun q h1 h2 => by rw [ho73 q (fun c => h1 c)]; exact hz q (by omega))) (by rw [he51.eq, he53.eq]; exact jwS.init ((congrArg Int32.toInt hp66).trans he65.eq) ((congrArg Int32.toInt hp80).trans he79.eq) he19.eq (fun k hk => hw0 k (by omega))) (Nat.lt_succ_self _)
        · refine J_aload_n dX7_countWays_31 rfl ?_
          refine J_get jf_X7_83 dX7_countWays_32 hO20 hF20_29 ?_
          refine J_iload_n dX7_countWays_35 rfl ?_
          refine Jz_iconst 0 dX7_countWays_36 (by decide) (fun y36 he36 => ?_)
          refine Jz_iast (r := ((-2147483648), 2147483647)) jEq.rf he36 hW id dX7_countWays_37 hAF30n25 rfl rfl (by omega) (by omega) (by omega) (by omega) (fun V37 G37 hW hx37 hA37 hp37 ho37 => ?_)
          obtain ⟨hN37, hv37⟩ := WT_rngI (r := ((-2147483648), 2147483647)) hW id rfl hA37
          clear hN37
          have he := he.trans (hx37.sub (jsub_of rfl))
          have hkp := hkp.trans (jkc.of hx37 (jnot_of rfl))
          have ha0 := ha0.mono hx37.1
          have hb_rh := hb_rh.mono hx37.1
          have hb_wb := hb_wb.mono hx37.1
          have hb25t30 := hb25t30.mono hx37.1
          have hO20 := hx37.2 _ _ hO20 (jnot_of rfl)
          have hK20 := hK20.mono hx37.1
          have hAF44n25 := hx37.2 _ _ hAF44n25 (jnot_of rfl)
          have ha_H43 := hx37.2 _ _ ha_H43 (jnot_of rfl)
          refine J_aload_n dX7_countWays_38 rfl ?_
          refine J_get jf_X7_86 dX7_countWays_39 hO20 hF25t30 ?_
          refine J_iload_n dX7_countWays_42 rfl ?_
          refine Jz_iconst 0 dX7_countWays_43 (by decide) (fun y43 he43 => ?_)
          refine Jz_zast (r := (0, 1)) jEq.rf he43 hW id dX7_countWays_44 hAF44n25 rfl rfl (by omega) (by omega) (by omega) (by omega) (fun _ h => vp_nar_b (by omega) (by omega)) (fun V44 G44 hW hx44 hA44 hp44 ho44 => ?_)
          obtain ⟨hN44, hv44⟩ := WT_rngI (r := (0, 1)) hW id rfl hA44
          clear hN44
          have he := he.trans (hx44.sub (jsub_of rfl))
          have hkp := hkp.trans (jkc.of hx44 (jnot_of rfl))
          have ha0 := ha0.mono hx44.1
          have hb_rh := hb_rh.mono hx44.1
          have hb_wb := hb_wb.mono hx44.1
          have hb25t30 := hb25t30.mono hx44.1
          have hO20 := hx44.2 _ _ hO20 (jnot_of rfl)
          have hK20 := hK20.mono hx44.1
          have ha_H43 := hx44.2 _ _ ha_H43 (jnot_of rfl)
          have hA37 := hx44.2 _ _ hA37 (jnot_of rfl)
          refine Jz_iinc 1 dX7_countWays_45 rfl rfl (by decide) jEq.rf (by decide) (by omega) (by omega) (fun y45 he45 => ?_)
          refine J_goto (tgt := 25) dX7_countWays_48 (by decide) ?_
          refine J.mask [true, true, false, false, false] ?_
          exact ih25 _ y45 G44 G37 hW he ha0 hb_rh hb_wb hb25t30 hkp hO20 hK20 hA44 hA37 ha_H43 (by (try simp only [he45.eq, true_and, and_true]) <;> omega) (fun k hk => by rw [he45.eq] at hk; exact (Nat.decEq k i1n25.toInt.toNat).byCases (fun hq => by rw [hq, hp44, he43.eq]) (fun hq => by rw [ho44 k hq]; exact hz k (by omega))) (fun k hk => by rw [he45.eq] at hk; exact (Nat.decEq k i1n25.toInt.toNat).byCases (fun hq => by rw [hq, hp37, he36.eq]) (fun hq => by rw [ho37 k hq]; exact hw0 k (by omega))) (by (try simp only [he45.eq, true_and, and_true]) <;> omega)
    refine J.mask [true, true, false, false, false] ?_
    exact L25 _ _ y23 f25tb25t30 WB hW he ha0 hb_rh hb_wb hb25t30 hkp hO20 hK20 hA25tb25t30 ha_WB ha_H43 (by (try simp only [he23.eq, true_and, and_true]) <;> omega) (fun k hk => by rw [he23.eq] at hk; omega) (fun k hk => by rw [he23.eq] at hk; omega) (Nat.lt_succ_self _)
  · exact J_ret (r := none) dX7_countWays_7 ⟨rfl, rfl⟩ (⟨⟨hW, he, rfl⟩, ⟨WB, cv, sv, fv, ha_WB, ⟨_, hO_a0, hF_cv⟩, ⟨_, hO_a0, hF_sv⟩, ⟨_, hO_a0, hF_fv⟩, hp6 (by omega)⟩, hkp, ⟨_, ⟨_, hO_a0, hF_wd⟩, (by omega)⟩, ⟨_, ⟨_, hO_a0, hF_hg⟩, (by omega)⟩⟩)
set_option maxRecDepth 100000 in
set_option maxHeartbeats 8000000 in
theorem w_X7_ways_z {tS : jTS} (d : Nat) (V0 : jH) (a0 : Nat) (x1 : Int32) (wd : Int32) (hg : Int32) (cv : Int32) (sv : Int32) (fv : Int32) (rh : Nat) (wb : Nat) (op : Nat → Bool) (NO : Nat) (H43 : Nat → Int32) (WB : Nat → Int32) (hd : 3 ≤ d) (hW : WT V0) (ha0 : jis V0 (.inr 5) a0) (hl1 : 0 ≤ x1.toInt) (hh1 : x1.toInt ≤ 1) (hf_wd : jfI V0 a0 5 23 wd) (hf_hg : jfI V0 a0 5 24 hg) (hf_cv : jfI V0 a0 5 26 cv) (hf_sv : jfI V0 a0 5 27 sv) (hf_fv : jfI V0 a0 5 28 fv) (hr_rh : jfR V0 a0 5 25 rh) (hr_wb : jfR V0 a0 5 29 wb) (ha_H43 : V0 rh = some (.inl (43, 36, .inl H43))) (ha_WB : V0 wb = some (.inl (30, 36, .inl WB))) (hp0 : 2 ≤ wd.toInt) (hp1 : wd.toInt ≤ 6) (hp2 : 2 ≤ hg.toInt) (hp3 : hg.toInt ≤ 6) (hp4 : jopr op wd.toInt.toNat hg.toInt.toNat H43) (hp5 : jcn 1 H43 (wd.toInt * hg.toInt).toNat = NO) (hp6 : jrm9 op (wd.toInt + 8 * hg.toInt).toNat NO cv sv fv WB) (hp7 : jsum (fun n => (op n).toNat) 64 = NO) (hp8 : NO ≤ 36) (hp9 : ∀ n : Nat, op n = true → n < 64) (hp10 : op 9 = true) : jTot tS mX7_ways d [.ref a0, .int x1] V0 0 0 (fun r V => (jPost [.inr 5, .inl 30, .inl 44, .inl 31, .inl 32] V0 (fun r _ => ∃ y : Int32, r = some (.int y) ∧ ((-2147483648) ≤ y.toInt) ∧ (y.toInt ≤ 2147483647) ∧ ((600000 < (jWY op (wd.toInt + 8 * hg.toInt).toNat NO).1 ∧ y.toInt = -5) ∨ ((jWY op (wd.toInt + 8 * hg.toInt).toNat NO).1 ≤ 600000 ∧ ((x1.toInt = 0 ∧ y.toInt = ((jWY op (wd.toInt + 8 * hg.toInt).toNat NO).2.2.1 : Int)) ∨ (¬ x1.toInt = 0 ∧ y.toInt = ((jWY op (wd.toInt + 8 * hg.toInt).toNat NO).2.2.2 : Int))))))) r V ∧ (∃ (WB2 : Nat → Int32) (cv2 sv2 fv2 : Int32), V wb = some (.inl (30, 36, .inl WB2)) ∧ jfI V a0 5 26 cv2 ∧ jfI V a0 5 27 sv2 ∧ jfI V a0 5 28 fv2 ∧ jrd9 op (wd.toInt + 8 * hg.toInt).toNat NO sv2 fv2 WB2) ∧ jkc 5 [0, 23, 24] V0 V) := by
  refine jTot.of_J [some (.ref a0), some (.int x1), none, none] moX7_ways (Nat.le_of_ble_eq_true rfl) rfl ?_
  have he : jeff [.inr 5, .inl 30, .inl 44, .inl 31, .inl 32] V0 V0 := jeff.refl _ _
  have hkp : jkc 5 [0, 23, 24] V0 V0 := jkc.rf
  obtain ⟨fs_a0, hO_a0, hK_a0⟩ := WT_obj hW id ha0
  have hF_wd := hf_wd.get hO_a0
  have hrwd : 2 ≤ wd.toInt ∧ wd.toInt ≤ 6 := jok_rngI hK_a0 rfl hF_wd
  have hF_hg := hf_hg.get hO_a0
  have hrhg : 2 ≤ hg.toInt ∧ hg.toInt ≤ 6 := jok_rngI hK_a0 rfl hF_hg
  have hF_cv := hf_cv.get hO_a0
  have hrcv : 0 ≤ cv.toInt ∧ cv.toInt ≤ 1 := jok_rngI hK_a0 rfl hF_cv
  have hF_sv := hf_sv.get hO_a0
  have hrsv : 0 ≤ sv.toInt ∧ sv.toInt ≤ 1 := jok_rngI hK_a0 rfl hF_sv
  have hF_fv := hf_fv.get hO_a0
  have hrfv : (-2147483648) ≤ fv.toInt ∧ fv.toInt ≤ 2147483647 := jok_rngI hK_a0 rfl hF_fv
  have hF_rh := hr_rh.get hO_a0
  obtain ⟨w_rh, hFq_rh, b_rh, hbq_rh, hb_rh⟩ := hK_a0.2 25 (.inr (some (.inl 43))) rfl
  cases hF_rh.symm.trans (hFq_rh.trans (congrArg some hbq_rh))
  have hF_wb := hr_wb.get hO_a0
  obtain ⟨w_wb, hFq_wb, b_wb, hbq_wb, hb_wb⟩ := hK_a0.2 29 (.inr (some (.inl 30))) rfl
  cases hF_wb.symm.trans (hFq_wb.trans (congrArg some hbq_wb))
  obtain ⟨hN_H43, hv_H43⟩ := WT_rngI (r := (0, 1)) hW id rfl ha_H43
  clear hN_H43
  obtain ⟨hN_WB, hv_WB⟩ := WT_rngI (r := ((-2147483648), 2147483647)) hW id rfl ha_WB
  clear hN_WB
  refine J_aload_n dX7_ways_0 rfl ?_
  refine Jw_callV0 (q9 := (RX7, TX7, 34)) moX7_countWays jw_ml_X7_230 jw_im_X7_countWays jw_se_X7_countWays ha0 rfl rfl dX7_ways_1 (w_X7_countWays_z (d - 1) _ a0 wd hg cv sv fv rh wb op NO H43 WB (by omega) hW  ha0 ⟨_, hO_a0, hF_wd⟩ ⟨_, hO_a0, hF_hg⟩ ⟨_, hO_a0, hF_cv⟩ ⟨_, hO_a0, hF_sv⟩ ⟨_, hO_a0, hF_fv⟩ ⟨_, hO_a0, hF_rh⟩ ⟨_, hO_a0, hF_wb⟩ ha_H43 ha_WB (by omega) (by omega) (by omega) (by omega) (by omega) (by omega) (by omega)) (by omega) (Nat.zero_le _) (Nat.zero_le _) (Nat.le_of_ble_eq_true rfl) (fun r1 V1 h1 => ?_)
  obtain ⟨h1, hX1_0, hX1_1, ⟨fv1_0, hfv1_0, hfp1_0⟩, ⟨fv1_1, hfv1_1, hfp1_1⟩⟩ := h1
  obtain ⟨hW, hx1, hr1⟩ := h1
  have he := he.trans (hx1.sub (jsub_of rfl))
  have hkp := hkp.trans hX1_1
  have ha0 := ha0.mono hx1.1
  have hb_rh := hb_rh.mono hx1.1
  have hb_wb := hb_wb.mono hx1.1
  obtain ⟨fs1a0, hOfs1a0, hRfs1a0⟩ := hx1.1.keep hO_a0
  have hKfs1a0 : jokO _ (jFs 5) fs1a0 := hW _ _ id hOfs1a0
  have hFfs1a0_25 := hRfs1a0 _ _ hF_rh
  have hFfs1a0_29 := hRfs1a0 _ _ hF_wb
  have ha_H43 := hx1.2 _ _ ha_H43 (jnot_of rfl)
  cases hr1
  have hFv1_0 := hfv1_0.get hOfs1a0
  have hsb1_0 : wd = fv1_0 := (jI_inj.mp hfp1_0).symm
  subst hsb1_0
  have hFv1_1 := hfv1_1.get hOfs1a0
  have hsb1_1 : hg = fv1_1 := (jI_inj.mp hfp1_1).symm
  subst hsb1_1
  obtain ⟨WB1, cv1, sv1, fv1, hWa1, hcf1, hsf1, hff1, hjd⟩ := id hX1_0
  have hFv126 := hcf1.get hOfs1a0
  have hFv127 := hsf1.get hOfs1a0
  have hFv128 := hff1.get hOfs1a0
  obtain ⟨hN_WB1, hv_WB1⟩ := WT_rngI (r := ((-2147483648), 2147483647)) hW id rfl hWa1
  clear hN_WB1
  refine J_aload_n dX7_ways_4 rfl ?_
  refine J_get jf_X7_218 dX7_ways_5 hOfs1a0 hFv127 ?_
  refine Jz_if_eq (tgt := 14) jEq.rf dX7_ways_8 (by decide) (fun c8 => ?_) (fun c8 => ?_)
  · obtain ⟨j1, j2, j3⟩ : (jWY op (wd.toInt + 8 * hg.toInt).toNat NO).1 ≤ 600000 ∧ fv1.toInt = ((jWY op (wd.toInt + 8 * hg.toInt).toNat NO).2.2.2 : Int) ∧ ∀ k : Nat, k < 36 → (WB1 k).toInt = ((jWY op (wd.toInt + 8 * hg.toInt).toNat NO).2.1 k : Int) := hjd.elim (fun q => absurd c8 q.1) (fun q => ⟨q.2.1, q.2.2.1, q.2.2.2⟩)
    have j4 : jsum (jWY op (wd.toInt + 8 * hg.toInt).toNat NO).2.1 36 = (jWY op (wd.toInt + 8 * hg.toInt).toNat NO).2.2.1 := jWY_sum hp9 hp8 (jli.one hp10 hp7)
    have j5 := jWY_all (op := op) (GL := (wd.toInt + 8 * hg.toInt).toNat) (NO := NO)
    refine Jz_iconst 0 dX7_ways_14 (by decide) (fun y14 he14 => ?_)
    refine J_istore_n dX7_ways_15 rfl (by decide) ?_
    refine Jz_iconst 0 dX7_ways_16 (by decide) (fun y16 he16 => ?_)
    refine J_istore_n dX7_ways_17 rfl (by decide) ?_
    have L18 : ∀ (N : Nat) (i2n18 : Int32) (i3n18 : Int32), (0 ≤ i3n18.toInt ∧ i3n18.toInt ≤ 36) → (i2n18.toInt = ((jsum (jWY op (wd.toInt + 8 * hg.toInt).toNat NO).2.1 i3n18.toInt.toNat : Nat) : Int)) → (300 - i3n18.toInt).toNat < N → J tS mX7_ways d 18 [some (.ref a0), some (.int x1), some (.int i2n18), some (.int i3n18)] [] V1 0 0 (fun r V => (jPost [.inr 5, .inl 30, .inl 44, .inl 31, .inl 32] V0 (fun r _ => ∃ y : Int32, r = some (.int y) ∧ ((-2147483648) ≤ y.toInt) ∧ (y.toInt ≤ 2147483647) ∧ ((600000 < (jWY op (wd.toInt + 8 * hg.toInt).toNat NO).1 ∧ y.toInt = -5) ∨ ((jWY op (wd.toInt + 8 * hg.toInt).toNat NO).1 ≤ 600000 ∧ ((x1.toInt = 0 ∧ y.toInt = ((jWY op (wd.toInt + 8 * hg.toInt).toNat NO).2.2.1 : Int)) ∨ (¬ x1.toInt = 0 ∧ y.toInt = ((jWY op (wd.toInt + 8 * hg.toInt).toNat NO).2.2.2 : Int))))))) r V ∧ (∃ (WB2 : Nat → Int32) (cv2 sv2 fv2 : Int32), V wb = some (.inl (30, 36, .inl WB2)) ∧ jfI V a0 5 26 cv2 ∧ jfI V a0 5 27 sv2 ∧ jfI V a0 5 28 fv2 ∧ jrd9 op (wd.toInt + 8 * hg.toInt).toNat NO sv2 fv2 WB2) ∧ jkc 5 [0, 23, 24] V0 V) := by
      intro N
      induction N with
      | zero => intro i2n18 i3n18  hi3 hsum hm; exact absurd hm (Nat.not_lt_zero _)
      | succ N ih =>
        intro i2n18 i3n18  hi3 hsum hm
        have ih18 := ih
        have hri3 := j_rng i3n18
        refine J_iload_n dX7_ways_18 rfl ?_
        refine Jz_bipush 36 dX7_ways_19 (by decide) (fun y19 he19 => ?_)
        refine Jz_icmp_ge (tgt := 39) jEq.rf he19 dX7_ways_21 (by decide) (fun c21 => ?_) (fun c21 => ?_)
        · refine J_iload_n dX7_ways_39 rfl ?_
          refine Jz_if_eq (tgt := 50) jEq.rf dX7_ways_40 (by decide) (fun c40 => ?_) (fun c40 => ?_)
          · refine J_iload_n dX7_ways_50 rfl ?_
            exact J_ret (r := some (.int _)) dX7_ways_51 ⟨rfl, _, rfl, rfl⟩ (⟨⟨hW, he, ⟨_, rfl, (j_rng _).1, (j_rng _).2, (by first | exact Or.inr ⟨j1, Or.inl ⟨by omega, by rw [hsum, show i3n18.toInt.toNat = 36 by omega, j4]⟩⟩ | exact Or.inr ⟨j1, Or.inr ⟨by omega, j2⟩⟩)⟩⟩, hX1_0, hkp⟩)
          · refine J_aload_n dX7_ways_43 rfl ?_
            refine J_get jf_X7_221 dX7_ways_44 hOfs1a0 hFv128 ?_
            refine J_goto (tgt := 51) dX7_ways_47 (by decide) ?_
            exact J_ret (r := some (.int _)) dX7_ways_51 ⟨rfl, _, rfl, rfl⟩ (⟨⟨hW, he, ⟨_, rfl, (j_rng _).1, (j_rng _).2, (by first | exact Or.inr ⟨j1, Or.inl ⟨by omega, by rw [hsum, show i3n18.toInt.toNat = 36 by omega, j4]⟩⟩ | exact Or.inr ⟨j1, Or.inr ⟨by omega, j2⟩⟩)⟩⟩, hX1_0, hkp⟩)
        · refine J_iload_n dX7_ways_24 rfl ?_
          refine J_aload_n dX7_ways_25 rfl ?_
          refine J_get jf_X7_83 dX7_ways_26 hOfs1a0 hFfs1a0_29 ?_
          refine J_iload_n dX7_ways_29 rfl ?_
          refine Jz_iald (r := ((-2147483648), 2147483647)) jEq.rf dX7_ways_30 hWa1 rfl hv_WB1 (by omega) (by omega) (fun y30 hf30 hl30 hh30 => ?_)
          dsimp only at hl30 hh30
          clear hl30 hh30
          have j6 := j3 i3n18.toInt.toNat (by omega)
          rw [hf30] at j6
          have j7 := jsum_mono (t := (jWY op (wd.toInt + 8 * hg.toInt).toNat NO).2.1) (n := i3n18.toInt.toNat + 1) (m := 36) (by omega)
          have j8 : jsum (jWY op (wd.toInt + 8 * hg.toInt).toNat NO).2.1 (i3n18.toInt.toNat + 1) = jsum (jWY op (wd.toInt + 8 * hg.toInt).toNat NO).2.1 i3n18.toInt.toNat + (jWY op (wd.toInt + 8 * hg.toInt).toNat NO).2.1 i3n18.toInt.toNat := rfl
          refine Jz_iadd jEq.rf jEq.rf dX7_ways_31 (by omega) (by omega) (fun y31 he31 => ?_)
          refine J_istore_n dX7_ways_32 rfl (by decide) ?_
          refine Jz_iinc 1 dX7_ways_33 rfl rfl (by decide) jEq.rf (by decide) (by omega) (by omega) (fun y33 he33 => ?_)
          refine J_goto (tgt := 18) dX7_ways_36 (by decide) ?_
          refine J.mask [true, true, true, true] ?_
          exact ih18  y31 y33  (by (try simp only [he31.eq, he33.eq, true_and, and_true]) <;> omega) (by rw [he31.eq, he33.eq, show (i3n18.toInt + 1).toNat = i3n18.toInt.toNat + 1 by omega, j8]; omega) (by (try simp only [he31.eq, he33.eq, true_and, and_true]) <;> omega)
    refine J.mask [true, true, true, true] ?_
    exact L18 _  y14 y16    (by (try simp only [he14.eq, he16.eq, true_and, and_true]) <;> omega) (by rw [he14.eq, he16.eq]; rfl) (Nat.lt_succ_self _)
  · have j1 : 600000 < (jWY op (wd.toInt + 8 * hg.toInt).toNat NO).1 := hjd.elim (fun q => q.2) (fun q => absurd q.1 c8)
    refine Jz_bipush (-5) dX7_ways_11 (by decide) (fun y11 he11 => ?_)
    exact J_ret (r := some (.int _)) dX7_ways_13 ⟨rfl, _, rfl, rfl⟩ (⟨⟨hW, he, ⟨_, rfl, (j_rng _).1, (j_rng _).2, (Or.inl ⟨j1, he11.eq⟩)⟩⟩, hX1_0, hkp⟩)
set_option maxRecDepth 100000 in
set_option maxHeartbeats 8000000 in
theorem w_X7_waysOf_z {tS : jTS} (d : Nat) (V0 : jH) (a0 : Nat) (x1 : Int32) (wd : Int32) (hg : Int32) (cv : Int32) (sv : Int32) (fv : Int32) (rh : Nat) (wb : Nat) (op : Nat → Bool) (NO : Nat) (H43 : Nat → Int32) (WB : Nat → Int32) (hd : 3 ≤ d) (hW : WT V0) (ha0 : jis V0 (.inr 5) a0) (hf_wd : jfI V0 a0 5 23 wd) (hf_hg : jfI V0 a0 5 24 hg) (hf_cv : jfI V0 a0 5 26 cv) (hf_sv : jfI V0 a0 5 27 sv) (hf_fv : jfI V0 a0 5 28 fv) (hr_rh : jfR V0 a0 5 25 rh) (hr_wb : jfR V0 a0 5 29 wb) (ha_H43 : V0 rh = some (.inl (43, 36, .inl H43))) (ha_WB : V0 wb = some (.inl (30, 36, .inl WB))) (hp0 : 2 ≤ wd.toInt) (hp1 : wd.toInt ≤ 6) (hp2 : 2 ≤ hg.toInt) (hp3 : hg.toInt ≤ 6) (hp4 : jopr op wd.toInt.toNat hg.toInt.toNat H43) (hp5 : jcn 1 H43 (wd.toInt * hg.toInt).toNat = NO) (hp6 : jrm9 op (wd.toInt + 8 * hg.toInt).toNat NO cv sv fv WB) (hp7 : jsum (fun n => (op n).toNat) 64 = NO) (hp8 : NO ≤ 36) (hp9 : ∀ n : Nat, op n = true → n < 64) (hp10 : op 9 = true) : jTot tS mX7_waysOf d [.ref a0, .int x1] V0 0 0 (fun r V => (jPost [.inr 5, .inl 30, .inl 44, .inl 31, .inl 32] V0 (fun r _ => ∃ y : Int32, r = some (.int y) ∧ ((-2147483648) ≤ y.toInt) ∧ (y.toInt ≤ 2147483647) ∧ ((x1.toInt < 0 ∧ y.toInt = -2) ∨ (0 ≤ x1.toInt ∧ 600000 < (jWY op (wd.toInt + 8 * hg.toInt).toNat NO).1 ∧ y.toInt = -5) ∨ (0 ≤ x1.toInt ∧ (jWY op (wd.toInt + 8 * hg.toInt).toNat NO).1 ≤ 600000 ∧ ((x1.toInt < 36 ∧ y.toInt = ((jWY op (wd.toInt + 8 * hg.toInt).toNat NO).2.1 x1.toInt.toNat : Int)) ∨ (36 ≤ x1.toInt ∧ y.toInt = 0)))))) r V ∧ (∃ (WB2 : Nat → Int32) (cv2 sv2 fv2 : Int32), V wb = some (.inl (30, 36, .inl WB2)) ∧ jfI V a0 5 26 cv2 ∧ jfI V a0 5 27 sv2 ∧ jfI V a0 5 28 fv2 ∧ jrm9 op (wd.toInt + 8 * hg.toInt).toNat NO cv2 sv2 fv2 WB2) ∧ jkc 5 [0, 23, 24] V0 V) := by
  refine jTot.of_J [some (.ref a0), some (.int x1)] moX7_waysOf (Nat.le_of_ble_eq_true rfl) rfl ?_
  have hrx1 := j_rng x1
  have he : jeff [.inr 5, .inl 30, .inl 44, .inl 31, .inl 32] V0 V0 := jeff.refl _ _
  have hkp : jkc 5 [0, 23, 24] V0 V0 := jkc.rf
  obtain ⟨fs_a0, hO_a0, hK_a0⟩ := WT_obj hW id ha0
  have hF_wd := hf_wd.get hO_a0
  have hrwd : 2 ≤ wd.toInt ∧ wd.toInt ≤ 6 := jok_rngI hK_a0 rfl hF_wd
  have hF_hg := hf_hg.get hO_a0
  have hrhg : 2 ≤ hg.toInt ∧ hg.toInt ≤ 6 := jok_rngI hK_a0 rfl hF_hg
  have hF_cv := hf_cv.get hO_a0
  have hrcv : 0 ≤ cv.toInt ∧ cv.toInt ≤ 1 := jok_rngI hK_a0 rfl hF_cv
  have hF_sv := hf_sv.get hO_a0
  have hrsv : 0 ≤ sv.toInt ∧ sv.toInt ≤ 1 := jok_rngI hK_a0 rfl hF_sv
  have hF_fv := hf_fv.get hO_a0
  have hrfv : (-2147483648) ≤ fv.toInt ∧ fv.toInt ≤ 2147483647 := jok_rngI hK_a0 rfl hF_fv
  have hF_rh := hr_rh.get hO_a0
  obtain ⟨w_rh, hFq_rh, b_rh, hbq_rh, hb_rh⟩ := hK_a0.2 25 (.inr (some (.inl 43))) rfl
  cases hF_rh.symm.trans (hFq_rh.trans (congrArg some hbq_rh))
  have hF_wb := hr_wb.get hO_a0
  obtain ⟨w_wb, hFq_wb, b_wb, hbq_wb, hb_wb⟩ := hK_a0.2 29 (.inr (some (.inl 30))) rfl
  cases hF_wb.symm.trans (hFq_wb.trans (congrArg some hbq_wb))
  obtain ⟨hN_H43, hv_H43⟩ := WT_rngI (r := (0, 1)) hW id rfl ha_H43
  clear hN_H43
  obtain ⟨hN_WB, hv_WB⟩ := WT_rngI (r := ((-2147483648), 2147483647)) hW id rfl ha_WB
  clear hN_WB
  refine J_iload_n dX7_waysOf_0 rfl ?_
  refine Jz_if_ge (tgt := 7) jEq.rf dX7_waysOf_1 (by decide) (fun c1 => ?_) (fun c1 => ?_)
  · refine J_aload_n dX7_waysOf_7 rfl ?_
    refine Jw_callV0 (q9 := (RX7, TX7, 34)) moX7_countWays jw_ml_X7_230 jw_im_X7_countWays jw_se_X7_countWays ha0 rfl rfl dX7_waysOf_8 (w_X7_countWays_z (d - 1) _ a0 wd hg cv sv fv rh wb op NO H43 WB (by omega) hW  ha0 ⟨_, hO_a0, hF_wd⟩ ⟨_, hO_a0, hF_hg⟩ ⟨_, hO_a0, hF_cv⟩ ⟨_, hO_a0, hF_sv⟩ ⟨_, hO_a0, hF_fv⟩ ⟨_, hO_a0, hF_rh⟩ ⟨_, hO_a0, hF_wb⟩ ha_H43 ha_WB (by omega) (by omega) (by omega) (by omega) (by omega) (by omega) (by omega)) (by omega) (Nat.zero_le _) (Nat.zero_le _) (Nat.le_of_ble_eq_true rfl) (fun r8 V8 h8 => ?_)
    obtain ⟨h8, hX8_0, hX8_1, ⟨fv8_0, hfv8_0, hfp8_0⟩, ⟨fv8_1, hfv8_1, hfp8_1⟩⟩ := h8
    obtain ⟨hW, hx8, hr8⟩ := h8
    have he := he.trans (hx8.sub (jsub_of rfl))
    have hkp := hkp.trans hX8_1
    have ha0 := ha0.mono hx8.1
    have hb_rh := hb_rh.mono hx8.1
    have hb_wb := hb_wb.mono hx8.1
    obtain ⟨fs8a0, hOfs8a0, hRfs8a0⟩ := hx8.1.keep hO_a0
    have hKfs8a0 : jokO _ (jFs 5) fs8a0 := hW _ _ id hOfs8a0
    have hFfs8a0_25 := hRfs8a0 _ _ hF_rh
    have hFfs8a0_29 := hRfs8a0 _ _ hF_wb
    have ha_H43 := hx8.2 _ _ ha_H43 (jnot_of rfl)
    cases hr8
    have hFv8_0 := hfv8_0.get hOfs8a0
    have hsb8_0 : wd = fv8_0 := (jI_inj.mp hfp8_0).symm
    subst hsb8_0
    have hFv8_1 := hfv8_1.get hOfs8a0
    have hsb8_1 : hg = fv8_1 := (jI_inj.mp hfp8_1).symm
    subst hsb8_1
    obtain ⟨WB8, cv8, sv8, fv8, hWa8, hcf8, hsf8, hff8, hjd⟩ := id hX8_0
    have hFv826 := hcf8.get hOfs8a0
    have hFv827 := hsf8.get hOfs8a0
    have hFv828 := hff8.get hOfs8a0
    obtain ⟨hN_WB8, hv_WB8⟩ := WT_rngI (r := ((-2147483648), 2147483647)) hW id rfl hWa8
    clear hN_WB8
    refine J_aload_n dX7_waysOf_11 rfl ?_
    refine J_get jf_X7_218 dX7_waysOf_12 hOfs8a0 hFv827 ?_
    refine Jz_if_eq (tgt := 23) jEq.rf dX7_waysOf_15 (by decide) (fun c15 => ?_) (fun c15 => ?_)
    · obtain ⟨j1, j2, j3⟩ : (jWY op (wd.toInt + 8 * hg.toInt).toNat NO).1 ≤ 600000 ∧ fv8.toInt = ((jWY op (wd.toInt + 8 * hg.toInt).toNat NO).2.2.2 : Int) ∧ ∀ k : Nat, k < 36 → (WB8 k).toInt = ((jWY op (wd.toInt + 8 * hg.toInt).toNat NO).2.1 k : Int) := hjd.elim (fun q => absurd c15 q.1) (fun q => ⟨q.2.1, q.2.2.1, q.2.2.2⟩)
      refine J_iload_n dX7_waysOf_23 rfl ?_
      refine Jz_bipush 36 dX7_waysOf_24 (by decide) (fun y24 he24 => ?_)
      refine Jz_icmp_ge (tgt := 38) jEq.rf he24 dX7_waysOf_26 (by decide) (fun c26 => ?_) (fun c26 => ?_)
      · refine Jz_iconst 0 dX7_waysOf_38 (by decide) (fun y38 he38 => ?_)
        exact J_ret (r := some (.int _)) dX7_waysOf_39 ⟨rfl, _, rfl, rfl⟩ (⟨⟨hW, he, ⟨_, rfl, (j_rng _).1, (j_rng _).2, (by first | exact Or.inr (Or.inl ⟨by omega, j1, he18.eq⟩) | exact Or.inr (Or.inr ⟨by omega, j1, Or.inl ⟨by omega, by rw [← hf34]; exact j3 _ (by omega)⟩⟩) | exact Or.inr (Or.inr ⟨by omega, j1, Or.inr ⟨by omega, he38.eq⟩⟩))⟩⟩, ⟨WB8, cv8, sv8, fv8, hWa8, hcf8, hsf8, hff8, fun _ => hjd⟩, hkp⟩)
      · refine J_aload_n dX7_waysOf_29 rfl ?_
        refine J_get jf_X7_83 dX7_waysOf_30 hOfs8a0 hFfs8a0_29 ?_
        refine J_iload_n dX7_waysOf_33 rfl ?_
        refine Jz_iald (r := ((-2147483648), 2147483647)) jEq.rf dX7_waysOf_34 hWa8 rfl hv_WB8 (by omega) (by omega) (fun y34 hf34 hl34 hh34 => ?_)
        dsimp only at hl34 hh34
        clear hl34 hh34
        refine J_goto (tgt := 39) dX7_waysOf_35 (by decide) ?_
        exact J_ret (r := some (.int _)) dX7_waysOf_39 ⟨rfl, _, rfl, rfl⟩ (⟨⟨hW, he, ⟨_, rfl, (j_rng _).1, (j_rng _).2, (by first | exact Or.inr (Or.inl ⟨by omega, j1, he18.eq⟩) | exact Or.inr (Or.inr ⟨by omega, j1, Or.inl ⟨by omega, by rw [← hf34]; exact j3 _ (by omega)⟩⟩) | exact Or.inr (Or.inr ⟨by omega, j1, Or.inr ⟨by omega, he38.eq⟩⟩))⟩⟩, ⟨WB8, cv8, sv8, fv8, hWa8, hcf8, hsf8, hff8, fun _ => hjd⟩, hkp⟩)
    · have j1 : 600000 < (jWY op (wd.toInt + 8 * hg.toInt).toNat NO).1 := hjd.elim (fun q => q.2) (fun q => absurd q.1 c15)
      refine Jz_bipush (-5) dX7_waysOf_18 (by decide) (fun y18 he18 => ?_)
      refine J_goto (tgt := 39) dX7_waysOf_20 (by decide) ?_
      exact J_ret (r := some (.int _)) dX7_waysOf_39 ⟨rfl, _, rfl, rfl⟩ (⟨⟨hW, he, ⟨_, rfl, (j_rng _).1, (j_rng _).2, (by first | exact Or.inr (Or.inl ⟨by omega, j1, he18.eq⟩) | exact Or.inr (Or.inr ⟨by omega, j1, Or.inl ⟨by omega, by rw [← hf34]; exact j3 _ (by omega)⟩⟩) | exact Or.inr (Or.inr ⟨by omega, j1, Or.inr ⟨by omega, he38.eq⟩⟩))⟩⟩, ⟨WB8, cv8, sv8, fv8, hWa8, hcf8, hsf8, hff8, fun _ => hjd⟩, hkp⟩)
  · refine Jz_bipush (-2) dX7_waysOf_4 (by decide) (fun y4 he4 => ?_)
    exact J_ret (r := some (.int _)) dX7_waysOf_6 ⟨rfl, _, rfl, rfl⟩ (⟨⟨hW, he, ⟨_, rfl, (j_rng _).1, (j_rng _).2, (Or.inl ⟨by omega, he4.eq⟩)⟩⟩, ⟨WB, cv, sv, fv, ha_WB, hf_cv, hf_sv, hf_fv, hp6⟩, hkp⟩)
