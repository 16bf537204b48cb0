set_option maxHeartbeats 4000000 in
theorem w_X6_cell {tS : jTS} (d : Nat) (V0 : jH) {t : Nat} {r : Int × Int} (a : Nat) (x : Int32) (hW : WT V0) (h : jis V0 (.inl t) a) (hc : jAc t = .inl r) (ht : jT[t]? = some .int) : jTot tS mX6_cell d [.ref a, .int x] V0 0 0 (fun r V => rN r V ∧ V = V0) := by
  refine jTot.of_J [some (.ref a), some (.int x)] moX6_cell (Nat.le_of_ble_eq_true rfl) rfl ?_
  obtain ⟨n, f, hA, hN, hM, hv⟩ := WT_arrI hW id hc h
  refine J_aload_n dX6_cell_0 rfl ?_
  refine J_ifnull dX6_cell_1 ?_
  refine J_iload_n dX6_cell_4 rfl ?_
  refine J_if_lt (tgt := 20) dX6_cell_5 (by decide) (fun c5 => ?_) (fun c5 => ?_)
  · refine J_iconst (v := 0) dX6_cell_20 (by decide) ?_
    exact J_ret (r := some (.int _)) dX6_cell_21 ⟨rfl, _, rfl, rfl⟩ ⟨rN_of _, rfl⟩
  · refine J_iload_n dX6_cell_8 rfl ?_
    refine J_aload_n dX6_cell_9 rfl ?_
    refine J_alen (v := Int32.ofNat n) dX6_cell_10 hA ht rfl ?_
    refine J_icmp_ge (tgt := 20) dX6_cell_11 (by decide) (fun c11 => ?_) (fun c11 => ?_)
    · refine J_iconst (v := 0) dX6_cell_20 (by decide) ?_
      exact J_ret (r := some (.int _)) dX6_cell_21 ⟨rfl, _, rfl, rfl⟩ ⟨rN_of _, rfl⟩
    · refine J_aload_n dX6_cell_14 rfl ?_
      refine J_iload_n dX6_cell_15 rfl ?_
      refine J_iald dX6_cell_16 hA ht (by exact vp_in_g (by assumption) (by assumption) (by assumption)) ?_
      refine J_goto (tgt := 21) dX6_cell_17 (by decide) ?_
      exact J_ret (r := some (.int _)) dX6_cell_21 ⟨rfl, _, rfl, rfl⟩ ⟨rN_of _, rfl⟩
set_option maxHeartbeats 4000000 in
theorem w_X6_cell_ {tS : jTS} (d : Nat) (V0 : jH) {t : Nat} (a : Nat) (x : Int32) (hW : WT V0) (h : jis V0 (.inl t) a) (hc : jAc t = .inr none) (ht : jT[t]? = some .long) : jTot tS mX6_cell_ d [.ref a, .int x] V0 0 0 (fun r V => rL r V ∧ V = V0) := by
  refine jTot.of_J [some (.ref a), some (.int x)] moX6_cell_ (Nat.le_of_ble_eq_true rfl) rfl ?_
  obtain ⟨n, f, hA, hN, hM⟩ := WT_arrL hW id hc h
  refine J_aload_n dX6_cell__0 rfl ?_
  refine J_ifnull dX6_cell__1 ?_
  refine J_iload_n dX6_cell__4 rfl ?_
  refine J_if_lt (tgt := 20) dX6_cell__5 (by decide) (fun c5 => ?_) (fun c5 => ?_)
  · refine J_lconst (v := 0) dX6_cell__20 rfl ?_
    exact J_ret (r := some (.long _)) dX6_cell__21 ⟨rfl, rfl⟩ ⟨⟨_, rfl⟩, rfl⟩
  · refine J_iload_n dX6_cell__8 rfl ?_
    refine J_aload_n dX6_cell__9 rfl ?_
    refine J_alen (v := Int32.ofNat n) dX6_cell__10 hA ht rfl ?_
    refine J_icmp_ge (tgt := 20) dX6_cell__11 (by decide) (fun c11 => ?_) (fun c11 => ?_)
    · refine J_lconst (v := 0) dX6_cell__20 rfl ?_
      exact J_ret (r := some (.long _)) dX6_cell__21 ⟨rfl, rfl⟩ ⟨⟨_, rfl⟩, rfl⟩
    · refine J_aload_n dX6_cell__14 rfl ?_
      refine J_iload_n dX6_cell__15 rfl ?_
      refine J_lald dX6_cell__16 hA ht (by exact vp_in_g (by assumption) (by assumption) (by assumption)) ?_
      refine J_goto (tgt := 21) dX6_cell__17 (by decide) ?_
      exact J_ret (r := some (.long _)) dX6_cell__21 ⟨rfl, rfl⟩ ⟨⟨_, rfl⟩, rfl⟩
set_option maxHeartbeats 4000000 in
theorem w_X6_put {tS : jTS} (d : Nat) (V0 : jH) {t : Nat} (a : Nat) (x y : Int32) (hW : WT V0) (h : jis V0 (.inl t) a) (hc : jAc t = .inl (-2147483648, 2147483647)) (ht : jT[t]? = some .int) : jTot tS mX6_put d [.ref a, .int x, .int y] V0 0 0 (jPost [.inl t] V0 rV) := by
  refine jTot.of_J [some (.ref a), some (.int x), some (.int y)] moX6_put (Nat.le_of_ble_eq_true rfl) rfl ?_
  obtain ⟨n, f, hA, hN, hM, hv⟩ := WT_arrI hW id hc h
  refine J_aload_n dX6_put_0 rfl ?_
  refine J_ifnull dX6_put_1 ?_
  refine J_iload_n dX6_put_4 rfl ?_
  refine J_if_lt (tgt := 18) dX6_put_5 (by decide) (fun c5 => ?_) (fun c5 => ?_)
  · exact J_ret (r := none) dX6_put_18 ⟨rfl, rfl⟩ ⟨hW, jeff.refl _ _, rfl⟩
  · refine J_iload_n dX6_put_8 rfl ?_
    refine J_aload_n dX6_put_9 rfl ?_
    refine J_alen (v := Int32.ofNat n) dX6_put_10 hA ht rfl ?_
    refine J_icmp_ge (tgt := 18) dX6_put_11 (by decide) (fun c11 => ?_) (fun c11 => ?_)
    · exact J_ret (r := none) dX6_put_18 ⟨rfl, rfl⟩ ⟨hW, jeff.refl _ _, rfl⟩
    · refine J_aload_n dX6_put_14 rfl ?_
      refine J_iload_n dX6_put_15 rfl ?_
      refine J_iload_n dX6_put_16 rfl ?_
      refine Jw_iast hW id dX6_put_17 hA ht hc (by exact vp_in_g (by assumption) (by assumption) (by assumption)) (j_rng _).1 (j_rng _).2 (fun V1 hW1 hx1 hy1 => ?_)
      exact J_ret (r := none) dX6_put_18 ⟨rfl, rfl⟩ ⟨hW1, hx1, rfl⟩
set_option maxRecDepth 100000 in
set_option maxHeartbeats 4000000 in
theorem w_X3_endX {tS : jTS} (d : Nat) (V0 : jH) (a0 : Nat)  (hd : 1 ≤ d) (hW : WT V0) (ha0 : jis V0 (.inr 1) a0)  : jTot tS mX3_endX d [.ref a0] V0 0 0 (fun r V => rN r V ∧ V = V0) := by
  refine jTot.of_J [some (.ref a0)] moX3_endX (Nat.le_of_ble_eq_true rfl) rfl ?_
  have he : jeff [] V0 V0 := jeff.refl _ _
  refine J_aload_n dX3_endX_0 rfl ?_
  obtain ⟨fs1, hO1, hK1⟩ := WT_obj hW id ha0
  obtain ⟨w1, hF1, b1, rfl, hb1⟩ := hK1.2 2 (.inr (some (.inl 34))) rfl
  refine J_get jf_X3_34 dX3_endX_1 hO1 hF1 ?_
  refine J_aload_n dX3_endX_4 rfl ?_
  obtain ⟨w5, hF5, y5, rfl, hl5, hh5⟩ := hK1.2 6 (.inl (0, 120)) rfl
  dsimp only at hl5 hh5
  refine J_get jf_X3_15 dX3_endX_5 hO1 hF5 ?_
  refine J_callSN2 moX6_cell (host := "WalkGrounds") (List.mem_of_getElem? (i := 0) rfl) jw_st_X6_cell dX3_endX_8 (w_X6_cell (d - 1) _ _ _ hW hb1 rfl rfl) (by omega) (Nat.zero_le _) (Nat.zero_le _) (Nat.le_of_ble_eq_true rfl) (fun r8 V8 h8 => ?_)
  obtain ⟨⟨y8, rfl, hl8, hh8⟩, hE8⟩ := h8
  have hE8 := hE8.symm
  subst hE8
  exact J_ret (r := some (.int _)) dX3_endX_11 ⟨rfl, _, rfl, rfl⟩ (⟨rN_of _, rfl⟩)
set_option maxRecDepth 100000 in
set_option maxHeartbeats 4000000 in
theorem w_X3_endY {tS : jTS} (d : Nat) (V0 : jH) (a0 : Nat)  (hd : 1 ≤ d) (hW : WT V0) (ha0 : jis V0 (.inr 1) a0)  : jTot tS mX3_endY d [.ref a0] V0 0 0 (fun r V => rN r V ∧ V = V0) := by
  refine jTot.of_J [some (.ref a0)] moX3_endY (Nat.le_of_ble_eq_true rfl) rfl ?_
  have he : jeff [] V0 V0 := jeff.refl _ _
  refine J_aload_n dX3_endY_0 rfl ?_
  obtain ⟨fs1, hO1, hK1⟩ := WT_obj hW id ha0
  obtain ⟨w1, hF1, b1, rfl, hb1⟩ := hK1.2 3 (.inr (some (.inl 35))) rfl
  refine J_get jf_X3_37 dX3_endY_1 hO1 hF1 ?_
  refine J_aload_n dX3_endY_4 rfl ?_
  obtain ⟨w5, hF5, y5, rfl, hl5, hh5⟩ := hK1.2 6 (.inl (0, 120)) rfl
  dsimp only at hl5 hh5
  refine J_get jf_X3_15 dX3_endY_5 hO1 hF5 ?_
  refine J_callSN2 moX6_cell (host := "WalkGrounds") (List.mem_of_getElem? (i := 0) rfl) jw_st_X6_cell dX3_endY_8 (w_X6_cell (d - 1) _ _ _ hW hb1 rfl rfl) (by omega) (Nat.zero_le _) (Nat.zero_le _) (Nat.le_of_ble_eq_true rfl) (fun r8 V8 h8 => ?_)
  obtain ⟨⟨y8, rfl, hl8, hh8⟩, hE8⟩ := h8
  have hE8 := hE8.symm
  subst hE8
  exact J_ret (r := some (.int _)) dX3_endY_11 ⟨rfl, _, rfl, rfl⟩ (⟨rN_of _, rfl⟩)
set_option maxRecDepth 100000 in
set_option maxHeartbeats 4000000 in
theorem w_X3_endZ {tS : jTS} (d : Nat) (V0 : jH) (a0 : Nat)  (hd : 1 ≤ d) (hW : WT V0) (ha0 : jis V0 (.inr 1) a0)  : jTot tS mX3_endZ d [.ref a0] V0 0 0 (fun r V => rN r V ∧ V = V0) := by
  refine jTot.of_J [some (.ref a0)] moX3_endZ (Nat.le_of_ble_eq_true rfl) rfl ?_
  have he : jeff [] V0 V0 := jeff.refl _ _
  refine J_aload_n dX3_endZ_0 rfl ?_
  obtain ⟨fs1, hO1, hK1⟩ := WT_obj hW id ha0
  obtain ⟨w1, hF1, b1, rfl, hb1⟩ := hK1.2 4 (.inr (some (.inl 36))) rfl
  refine J_get jf_X3_40 dX3_endZ_1 hO1 hF1 ?_
  refine J_aload_n dX3_endZ_4 rfl ?_
  obtain ⟨w5, hF5, y5, rfl, hl5, hh5⟩ := hK1.2 6 (.inl (0, 120)) rfl
  dsimp only at hl5 hh5
  refine J_get jf_X3_15 dX3_endZ_5 hO1 hF5 ?_
  refine J_callSN2 moX6_cell (host := "WalkGrounds") (List.mem_of_getElem? (i := 0) rfl) jw_st_X6_cell dX3_endZ_8 (w_X6_cell (d - 1) _ _ _ hW hb1 rfl rfl) (by omega) (Nat.zero_le _) (Nat.zero_le _) (Nat.le_of_ble_eq_true rfl) (fun r8 V8 h8 => ?_)
  obtain ⟨⟨y8, rfl, hl8, hh8⟩, hE8⟩ := h8
  have hE8 := hE8.symm
  subst hE8
  exact J_ret (r := some (.int _)) dX3_endZ_11 ⟨rfl, _, rfl, rfl⟩ (⟨rN_of _, rfl⟩)
set_option maxRecDepth 100000 in
set_option maxHeartbeats 4000000 in
theorem w_X3_hasCome {tS : jTS} (d : Nat) (V0 : jH) (a0 : Nat) (x1 : Int32) (x2 : Int32) (x3 : Int32)  (hd : 1 ≤ d) (hW : WT V0) (ha0 : jis V0 (.inr 1) a0)  : jTot tS mX3_hasCome d [.ref a0, .int x1, .int x2, .int x3] V0 0 0 (fun r V => (rI 0 1) r V ∧ V = V0) := by
  refine jTot.of_J [some (.ref a0), some (.int x1), some (.int x2), some (.int x3), none] moX3_hasCome (Nat.le_of_ble_eq_true rfl) rfl ?_
  have he : jeff [] V0 V0 := jeff.refl _ _
  refine J_aload_n dX3_hasCome_0 rfl ?_
  obtain ⟨fs1, hO1, hK1⟩ := WT_obj hW id ha0
  obtain ⟨w1, hF1, y1, rfl, hl1, hh1⟩ := hK1.2 6 (.inl (0, 120)) rfl
  dsimp only at hl1 hh1
  refine J_get jf_X3_15 dX3_hasCome_1 hO1 hF1 ?_
  refine J_istore dX3_hasCome_4 rfl (by decide) ?_
  have L6 : ∀ (N : Nat) (i4 : Int32), WT V0 → jeff [] V0 V0 → jis V0 (.inr 1) a0 → (i4.toInt + 2147483648).toNat < N → J tS mX3_hasCome d 6 [some (.ref a0), some (.int x1), some (.int x2), some (.int x3), some (.int i4)] [] V0 0 0 (fun r V => (rI 0 1) r V ∧ V = V0) := by
    intro N
    induction N with
    | zero => intro i4 hW he ha0  hm; exact absurd hm (Nat.not_lt_zero _)
    | succ N ih =>
      intro i4 hW he ha0  hm
      have ih6 := ih
      refine J_iload dX3_hasCome_6 rfl ?_
      refine J_if_lt (tgt := 58) dX3_hasCome_8 (by decide) (fun c8 => ?_) (fun c8 => ?_)
      · refine J_iconst (v := 0) dX3_hasCome_58 (by decide) ?_
        exact J_ret (r := some (.int _)) dX3_hasCome_59 ⟨rfl, _, rfl, (by first | rfl | exact nar_b (by assumption) (by assumption))⟩ (⟨⟨_, rfl, by first | decide | assumption | omega, by first | decide | assumption | omega⟩, rfl⟩)
      · refine J_aload_n dX3_hasCome_11 rfl ?_
        obtain ⟨fs12, hO12, hK12⟩ := WT_obj hW id ha0
        obtain ⟨w12, hF12, b12, rfl, hb12⟩ := hK12.2 2 (.inr (some (.inl 34))) rfl
        refine J_get jf_X3_34 dX3_hasCome_12 hO12 hF12 ?_
        refine J_iload dX3_hasCome_15 rfl ?_
        refine J_callSN2 moX6_cell (host := "WalkGrounds") (List.mem_of_getElem? (i := 0) rfl) jw_st_X6_cell dX3_hasCome_17 (w_X6_cell (d - 1) _ _ _ hW hb12 rfl rfl) (by omega) (Nat.zero_le _) (Nat.zero_le _) (Nat.le_of_ble_eq_true rfl) (fun r17 V17 h17 => ?_)
        obtain ⟨⟨y17, rfl, hl17, hh17⟩, hE17⟩ := h17
        have hE17 := hE17.symm
        subst hE17
        refine J_iload_n dX3_hasCome_20 rfl ?_
        refine J_icmp_ne (tgt := 52) dX3_hasCome_21 (by decide) (fun c21 => ?_) (fun c21 => ?_)
        · refine J_iinc dX3_hasCome_52 rfl j_incm1 rfl (by decide) ?_
          refine J_goto (tgt := 6) dX3_hasCome_55 (by decide) ?_
          refine J.mask [true, true, true, true, true] ?_
          exact ih6  _ hW he ha0  (jdec_dn c8 (by assumption))
        · refine J_aload_n dX3_hasCome_24 rfl ?_
          obtain ⟨w25, hF25, b25, rfl, hb25⟩ := hK12.2 3 (.inr (some (.inl 35))) rfl
          refine J_get jf_X3_37 dX3_hasCome_25 hO12 hF25 ?_
          refine J_iload dX3_hasCome_28 rfl ?_
          refine J_callSN2 moX6_cell (host := "WalkGrounds") (List.mem_of_getElem? (i := 0) rfl) jw_st_X6_cell dX3_hasCome_30 (w_X6_cell (d - 1) _ _ _ hW hb25 rfl rfl) (by omega) (Nat.zero_le _) (Nat.zero_le _) (Nat.le_of_ble_eq_true rfl) (fun r30 V30 h30 => ?_)
          obtain ⟨⟨y30, rfl, hl30, hh30⟩, hE30⟩ := h30
          have hE30 := hE30.symm
          subst hE30
          refine J_iload_n dX3_hasCome_33 rfl ?_
          refine J_icmp_ne (tgt := 52) dX3_hasCome_34 (by decide) (fun c34 => ?_) (fun c34 => ?_)
          · refine J_iinc dX3_hasCome_52 rfl j_incm1 rfl (by decide) ?_
            refine J_goto (tgt := 6) dX3_hasCome_55 (by decide) ?_
            refine J.mask [true, true, true, true, true] ?_
            exact ih6  _ hW he ha0  (jdec_dn c8 (by assumption))
          · refine J_aload_n dX3_hasCome_37 rfl ?_
            obtain ⟨w38, hF38, b38, rfl, hb38⟩ := hK12.2 4 (.inr (some (.inl 36))) rfl
            refine J_get jf_X3_40 dX3_hasCome_38 hO12 hF38 ?_
            refine J_iload dX3_hasCome_41 rfl ?_
            refine J_callSN2 moX6_cell (host := "WalkGrounds") (List.mem_of_getElem? (i := 0) rfl) jw_st_X6_cell dX3_hasCome_43 (w_X6_cell (d - 1) _ _ _ hW hb38 rfl rfl) (by omega) (Nat.zero_le _) (Nat.zero_le _) (Nat.le_of_ble_eq_true rfl) (fun r43 V43 h43 => ?_)
            obtain ⟨⟨y43, rfl, hl43, hh43⟩, hE43⟩ := h43
            have hE43 := hE43.symm
            subst hE43
            refine J_iload_n dX3_hasCome_46 rfl ?_
            refine J_icmp_ne (tgt := 52) dX3_hasCome_47 (by decide) (fun c47 => ?_) (fun c47 => ?_)
            · refine J_iinc dX3_hasCome_52 rfl j_incm1 rfl (by decide) ?_
              refine J_goto (tgt := 6) dX3_hasCome_55 (by decide) ?_
              refine J.mask [true, true, true, true, true] ?_
              exact ih6  _ hW he ha0  (jdec_dn c8 (by assumption))
            · refine J_iconst (v := 1) dX3_hasCome_50 (by decide) ?_
              exact J_ret (r := some (.int _)) dX3_hasCome_51 ⟨rfl, _, rfl, (by first | rfl | exact nar_b (by assumption) (by assumption))⟩ (⟨⟨_, rfl, by first | decide | assumption | omega, by first | decide | assumption | omega⟩, rfl⟩)
  refine J.mask [true, true, true, true, true] ?_
  exact L6 _  _ hW he ha0  (Nat.lt_succ_self _)
set_option maxRecDepth 100000 in
set_option maxHeartbeats 4000000 in
theorem w_X3_leads {tS : jTS} (d : Nat) (V0 : jH) (a0 : Nat) (x1 : Int32)  (hd : 2 ≤ d) (hW : WT V0) (ha0 : jis V0 (.inr 1) a0)  : jTot tS mX3_leads d [.ref a0, .int x1] V0 0 0 (fun r V => (rI 0 1) r V ∧ V = V0) := by
  refine jTot.of_J [some (.ref a0), some (.int x1)] moX3_leads (Nat.le_of_ble_eq_true rfl) rfl ?_
  have he : jeff [] V0 V0 := jeff.refl _ _
  refine J_aload_n dX3_leads_0 rfl ?_
  refine J_aload_n dX3_leads_1 rfl ?_
  refine Jw_callV0 (q9 := (RX3, TX3, 7)) moX3_endX jw_ml_X3_47 jw_im_X3_endX jw_se_X3_endX ha0 rfl rfl dX3_leads_2 (w_X3_endX (d - 1) _ _ (by omega) hW  ha0 ) (by omega) (Nat.zero_le _) (Nat.zero_le _) (Nat.le_of_ble_eq_true rfl) (fun r2 V2 h2 => ?_)
  obtain ⟨⟨y2, rfl, hl2, hh2⟩, hE2⟩ := h2
  have hE2 := hE2.symm
  subst hE2
  refine J_aload_n dX3_leads_5 rfl ?_
  obtain ⟨fs6, hO6, hK6⟩ := WT_obj hW id ha0
  obtain ⟨w6, hF6, y6, rfl, hl6, hh6⟩ := hK6.2 5 (.inl ((-2147483648), 2147483647)) rfl
  dsimp only at hl6 hh6
  refine J_get jf_X3_9 dX3_leads_6 hO6 hF6 ?_
  refine J_iload_n dX3_leads_9 rfl ?_
  refine J_callS2 moX0_shiftX jw_ml_X3_51 jw_st_X0_shiftX dX3_leads_10 (w_X0_shiftX (d - 1) _ _ _ (by omega)    ) (by omega) (Nat.zero_le _) (Nat.zero_le _) (Nat.le_of_ble_eq_true rfl) (fun r10 V10 h10 => ?_)
  obtain ⟨⟨y10, rfl, hl10, hh10⟩, hE10⟩ := h10
  have hE10 := hE10.symm
  subst hE10
  refine J_iadd dX3_leads_13 ?_
  refine J_aload_n dX3_leads_14 rfl ?_
  refine Jw_callV0 (q9 := (RX3, TX3, 7)) moX3_endY jw_ml_X3_56 jw_im_X3_endY jw_se_X3_endY ha0 rfl rfl dX3_leads_15 (w_X3_endY (d - 1) _ _ (by omega) hW  ha0 ) (by omega) (Nat.zero_le _) (Nat.zero_le _) (Nat.le_of_ble_eq_true rfl) (fun r15 V15 h15 => ?_)
  obtain ⟨⟨y15, rfl, hl15, hh15⟩, hE15⟩ := h15
  have hE15 := hE15.symm
  subst hE15
  refine J_aload_n dX3_leads_18 rfl ?_
  refine J_get jf_X3_9 dX3_leads_19 hO6 hF6 ?_
  refine J_iload_n dX3_leads_22 rfl ?_
  refine J_aload_n dX3_leads_23 rfl ?_
  refine Jw_callV0 (q9 := (RX3, TX3, 7)) moX3_endX jw_ml_X3_47 jw_im_X3_endX jw_se_X3_endX ha0 rfl rfl dX3_leads_24 (w_X3_endX (d - 1) _ _ (by omega) hW  ha0 ) (by omega) (Nat.zero_le _) (Nat.zero_le _) (Nat.le_of_ble_eq_true rfl) (fun r24 V24 h24 => ?_)
  obtain ⟨⟨y24, rfl, hl24, hh24⟩, hE24⟩ := h24
  have hE24 := hE24.symm
  subst hE24
  refine J_aload_n dX3_leads_27 rfl ?_
  refine Jw_callV0 (q9 := (RX3, TX3, 7)) moX3_endY jw_ml_X3_56 jw_im_X3_endY jw_se_X3_endY ha0 rfl rfl dX3_leads_28 (w_X3_endY (d - 1) _ _ (by omega) hW  ha0 ) (by omega) (Nat.zero_le _) (Nat.zero_le _) (Nat.le_of_ble_eq_true rfl) (fun r28 V28 h28 => ?_)
  obtain ⟨⟨y28, rfl, hl28, hh28⟩, hE28⟩ := h28
  have hE28 := hE28.symm
  subst hE28
  refine J_callS4 moX0_shiftY jw_ml_X3_59 jw_st_X0_shiftY dX3_leads_31 (w_X0_shiftY (d - 1) _ _ _ _ _ (by omega)    ) (by omega) (Nat.zero_le _) (Nat.zero_le _) (Nat.le_of_ble_eq_true rfl) (fun r31 V31 h31 => ?_)
  obtain ⟨⟨y31, rfl, hl31, hh31⟩, hE31⟩ := h31
  have hE31 := hE31.symm
  subst hE31
  refine J_iadd dX3_leads_34 ?_
  refine J_aload_n dX3_leads_35 rfl ?_
  refine Jw_callV0 (q9 := (RX3, TX3, 7)) moX3_endZ jw_ml_X3_63 jw_im_X3_endZ jw_se_X3_endZ ha0 rfl rfl dX3_leads_36 (w_X3_endZ (d - 1) _ _ (by omega) hW  ha0 ) (by omega) (Nat.zero_le _) (Nat.zero_le _) (Nat.le_of_ble_eq_true rfl) (fun r36 V36 h36 => ?_)
  obtain ⟨⟨y36, rfl, hl36, hh36⟩, hE36⟩ := h36
  have hE36 := hE36.symm
  subst hE36
  refine J_aload_n dX3_leads_39 rfl ?_
  refine J_get jf_X3_9 dX3_leads_40 hO6 hF6 ?_
  refine J_iload_n dX3_leads_43 rfl ?_
  refine J_callS2 moX0_shiftZ jw_ml_X3_66 jw_st_X0_shiftZ dX3_leads_44 (w_X0_shiftZ (d - 1) _ _ _ (by omega)    ) (by omega) (Nat.zero_le _) (Nat.zero_le _) (Nat.le_of_ble_eq_true rfl) (fun r44 V44 h44 => ?_)
  obtain ⟨⟨y44, rfl, hl44, hh44⟩, hE44⟩ := h44
  have hE44 := hE44.symm
  subst hE44
  refine J_iadd dX3_leads_47 ?_
  refine Jw_callV3 (q9 := (RX3, TX3, 7)) moX3_hasCome jw_ml_X3_69 jw_im_X3_hasCome jw_se_X3_hasCome ha0 rfl rfl dX3_leads_48 (w_X3_hasCome (d - 1) _ _ _ _ _ (by omega) hW  ha0 ) (by omega) (Nat.zero_le _) (Nat.zero_le _) (Nat.le_of_ble_eq_true rfl) (fun r48 V48 h48 => ?_)
  obtain ⟨⟨y48, rfl, hl48, hh48⟩, hE48⟩ := h48
  have hE48 := hE48.symm
  subst hE48
  refine J_if_ne (tgt := 58) dX3_leads_51 (by decide) (fun c51 => ?_) (fun c51 => ?_)
  · refine J_iconst (v := 0) dX3_leads_58 (by decide) ?_
    exact J_ret (r := some (.int _)) dX3_leads_59 ⟨rfl, _, rfl, (by first | rfl | exact nar_b (by assumption) (by assumption))⟩ (⟨⟨_, rfl, by first | decide | assumption | omega, by first | decide | assumption | omega⟩, rfl⟩)
  · refine J_iconst (v := 1) dX3_leads_54 (by decide) ?_
    refine J_goto (tgt := 59) dX3_leads_55 (by decide) ?_
    exact J_ret (r := some (.int _)) dX3_leads_59 ⟨rfl, _, rfl, (by first | rfl | exact nar_b (by assumption) (by assumption))⟩ (⟨⟨_, rfl, by first | decide | assumption | omega, by first | decide | assumption | omega⟩, rfl⟩)
set_option maxRecDepth 100000 in
set_option maxHeartbeats 4000000 in
theorem w_X3_begin {tS : jTS} (d : Nat) (V0 : jH) (a0 : Nat) (x1 : Int32)  (hd : 0 ≤ d) (hW : WT V0) (ha0 : jis V0 (.inr 1) a0)  : jTot tS mX3_begin d [.ref a0, .int x1] V0 0 0 (jPost [.inr 1] V0 rV) := by
  refine jTot.of_J [some (.ref a0), some (.int x1)] moX3_begin (Nat.le_of_ble_eq_true rfl) rfl ?_
  have he : jeff [.inr 1] V0 V0 := jeff.refl _ _
  refine J_aload_n dX3_begin_0 rfl ?_
  refine J_iload_n dX3_begin_1 rfl ?_
  refine Jw_putI hW id ha0 rfl jf_X3_9 jt_X3_5 dX3_begin_2 (j_rng _).1 (j_rng _).2 rfl rfl (fun V2 hW hx2 => ?_)
  have he := he.trans (hx2.sub (jsub_of rfl))
  have ha0 := ha0.mono hx2.1
  refine J_aload_n dX3_begin_5 rfl ?_
  refine J_iconst (v := 0) dX3_begin_6 (by decide) ?_
  refine Jw_putI hW id ha0 rfl jf_X3_15 jt_X3_6 dX3_begin_7 (by first | decide | assumption | omega) (by first | decide | assumption | omega) rfl rfl (fun V7 hW hx7 => ?_)
  have he := he.trans (hx7.sub (jsub_of rfl))
  have ha0 := ha0.mono hx7.1
  exact J_ret (r := none) dX3_begin_10 ⟨rfl, rfl⟩ (⟨hW, he, rfl⟩)
set_option maxRecDepth 100000 in
set_option maxHeartbeats 4000000 in
theorem w_X3_direction {tS : jTS} (d : Nat) (V0 : jH) (a0 : Nat) (x1 : Int32)  (hd : 1 ≤ d) (hW : WT V0) (ha0 : jis V0 (.inr 1) a0)  : jTot tS mX3_direction d [.ref a0, .int x1] V0 0 0 (fun r V => rN r V ∧ V = V0) := by
  refine jTot.of_J [some (.ref a0), some (.int x1)] moX3_direction (Nat.le_of_ble_eq_true rfl) rfl ?_
  have he : jeff [] V0 V0 := jeff.refl _ _
  refine J_aload_n dX3_direction_0 rfl ?_
  obtain ⟨fs1, hO1, hK1⟩ := WT_obj hW id ha0
  obtain ⟨w1, hF1, b1, rfl, hb1⟩ := hK1.2 1 (.inr (some (.inl 6))) rfl
  refine J_get jf_X3_30 dX3_direction_1 hO1 hF1 ?_
  refine J_iload_n dX3_direction_4 rfl ?_
  refine J_callSN2 moX6_cell (host := "WalkGrounds") (List.mem_of_getElem? (i := 0) rfl) jw_st_X6_cell dX3_direction_5 (w_X6_cell (d - 1) _ _ _ hW hb1 rfl rfl) (by omega) (Nat.zero_le _) (Nat.zero_le _) (Nat.le_of_ble_eq_true rfl) (fun r5 V5 h5 => ?_)
  obtain ⟨⟨y5, rfl, hl5, hh5⟩, hE5⟩ := h5
  have hE5 := hE5.symm
  subst hE5
  exact J_ret (r := some (.int _)) dX3_direction_8 ⟨rfl, _, rfl, rfl⟩ (⟨rN_of _, rfl⟩)
set_option maxRecDepth 100000 in
set_option maxHeartbeats 4000000 in
theorem w_X3_lay {tS : jTS} (d : Nat) (V0 : jH) (a0 : Nat) (x1 : Int32)  (hd : 3 ≤ d) (hW : WT V0) (ha0 : jis V0 (.inr 1) a0)  : jTot tS mX3_lay d [.ref a0, .int x1] V0 0 0 (jPost [.inr 1, .inl 6, .inl 34, .inl 35, .inl 36] V0 (rI 0 1)) := by
  refine jTot.of_J [some (.ref a0), some (.int x1), none, none, none] moX3_lay (Nat.le_of_ble_eq_true rfl) rfl ?_
  have he : jeff [.inr 1, .inl 6, .inl 34, .inl 35, .inl 36] V0 V0 := jeff.refl _ _
  refine J_aload_n dX3_lay_0 rfl ?_
  obtain ⟨fs1, hO1, hK1⟩ := WT_obj hW id ha0
  obtain ⟨w1, hF1, y1, rfl, hl1, hh1⟩ := hK1.2 6 (.inl (0, 120)) rfl
  dsimp only at hl1 hh1
  refine J_get jf_X3_15 dX3_lay_1 hO1 hF1 ?_
  refine J_aload_n dX3_lay_4 rfl ?_
  obtain ⟨w5, hF5, y5, rfl, hl5, hh5⟩ := hK1.2 0 (.inl (0, 120)) rfl
  dsimp only at hl5 hh5
  refine J_get jf_X3_27 dX3_lay_5 hO1 hF5 ?_
  refine J_icmp_ge (tgt := 19) dX3_lay_8 (by decide) (fun c8 => ?_) (fun c8 => ?_)
  · refine J_iconst (v := 0) dX3_lay_19 (by decide) ?_
    exact J_ret (r := some (.int _)) dX3_lay_20 ⟨rfl, _, rfl, (by first | rfl | exact nar_b (by assumption) (by assumption))⟩ (⟨hW, he, _, rfl, by first | decide | assumption | omega, by first | decide | assumption | omega⟩)
  · refine J_aload_n dX3_lay_11 rfl ?_
    refine J_iload_n dX3_lay_12 rfl ?_
    refine Jw_callV1 (q9 := (RX3, TX3, 7)) moX3_leads jw_ml_X3_73 jw_im_X3_leads jw_se_X3_leads ha0 rfl rfl dX3_lay_13 (w_X3_leads (d - 1) _ _ _ (by omega) hW  ha0 ) (by omega) (Nat.zero_le _) (Nat.zero_le _) (Nat.le_of_ble_eq_true rfl) (fun r13 V13 h13 => ?_)
    obtain ⟨⟨y13, rfl, hl13, hh13⟩, hE13⟩ := h13
    have hE13 := hE13.symm
    subst hE13
    refine J_if_ne (tgt := 21) dX3_lay_16 (by decide) (fun c16 => ?_) (fun c16 => ?_)
    · refine J_aload_n dX3_lay_21 rfl ?_
      refine Jw_callV0 (q9 := (RX3, TX3, 7)) moX3_endX jw_ml_X3_47 jw_im_X3_endX jw_se_X3_endX ha0 rfl rfl dX3_lay_22 (w_X3_endX (d - 1) _ _ (by omega) hW  ha0 ) (by omega) (Nat.zero_le _) (Nat.zero_le _) (Nat.le_of_ble_eq_true rfl) (fun r22 V22 h22 => ?_)
      obtain ⟨⟨y22, rfl, hl22, hh22⟩, hE22⟩ := h22
      have hE22 := hE22.symm
      subst hE22
      refine J_aload_n dX3_lay_25 rfl ?_
      obtain ⟨w26, hF26, y26, rfl, hl26, hh26⟩ := hK1.2 5 (.inl ((-2147483648), 2147483647)) rfl
      dsimp only at hl26 hh26
      refine J_get jf_X3_9 dX3_lay_26 hO1 hF26 ?_
      refine J_iload_n dX3_lay_29 rfl ?_
      refine J_callS2 moX0_shiftX jw_ml_X3_51 jw_st_X0_shiftX dX3_lay_30 (w_X0_shiftX (d - 1) _ _ _ (by omega)    ) (by omega) (Nat.zero_le _) (Nat.zero_le _) (Nat.le_of_ble_eq_true rfl) (fun r30 V30 h30 => ?_)
      obtain ⟨⟨y30, rfl, hl30, hh30⟩, hE30⟩ := h30
      have hE30 := hE30.symm
      subst hE30
      refine J_iadd dX3_lay_33 ?_
      refine J_istore_n dX3_lay_34 rfl (by decide) ?_
      refine J_aload_n dX3_lay_35 rfl ?_
      refine Jw_callV0 (q9 := (RX3, TX3, 7)) moX3_endY jw_ml_X3_56 jw_im_X3_endY jw_se_X3_endY ha0 rfl rfl dX3_lay_36 (w_X3_endY (d - 1) _ _ (by omega) hW  ha0 ) (by omega) (Nat.zero_le _) (Nat.zero_le _) (Nat.le_of_ble_eq_true rfl) (fun r36 V36 h36 => ?_)
      obtain ⟨⟨y36, rfl, hl36, hh36⟩, hE36⟩ := h36
      have hE36 := hE36.symm
      subst hE36
      refine J_aload_n dX3_lay_39 rfl ?_
      refine J_get jf_X3_9 dX3_lay_40 hO1 hF26 ?_
      refine J_iload_n dX3_lay_43 rfl ?_
      refine J_aload_n dX3_lay_44 rfl ?_
      refine Jw_callV0 (q9 := (RX3, TX3, 7)) moX3_endX jw_ml_X3_47 jw_im_X3_endX jw_se_X3_endX ha0 rfl rfl dX3_lay_45 (w_X3_endX (d - 1) _ _ (by omega) hW  ha0 ) (by omega) (Nat.zero_le _) (Nat.zero_le _) (Nat.le_of_ble_eq_true rfl) (fun r45 V45 h45 => ?_)
      obtain ⟨⟨y45, rfl, hl45, hh45⟩, hE45⟩ := h45
      have hE45 := hE45.symm
      subst hE45
      refine J_aload_n dX3_lay_48 rfl ?_
      refine Jw_callV0 (q9 := (RX3, TX3, 7)) moX3_endY jw_ml_X3_56 jw_im_X3_endY jw_se_X3_endY ha0 rfl rfl dX3_lay_49 (w_X3_endY (d - 1) _ _ (by omega) hW  ha0 ) (by omega) (Nat.zero_le _) (Nat.zero_le _) (Nat.le_of_ble_eq_true rfl) (fun r49 V49 h49 => ?_)
      obtain ⟨⟨y49, rfl, hl49, hh49⟩, hE49⟩ := h49
      have hE49 := hE49.symm
      subst hE49
      refine J_callS4 moX0_shiftY jw_ml_X3_59 jw_st_X0_shiftY dX3_lay_52 (w_X0_shiftY (d - 1) _ _ _ _ _ (by omega)    ) (by omega) (Nat.zero_le _) (Nat.zero_le _) (Nat.le_of_ble_eq_true rfl) (fun r52 V52 h52 => ?_)
      obtain ⟨⟨y52, rfl, hl52, hh52⟩, hE52⟩ := h52
      have hE52 := hE52.symm
      subst hE52
      refine J_iadd dX3_lay_55 ?_
      refine J_istore_n dX3_lay_56 rfl (by decide) ?_
      refine J_aload_n dX3_lay_57 rfl ?_
      refine Jw_callV0 (q9 := (RX3, TX3, 7)) moX3_endZ jw_ml_X3_63 jw_im_X3_endZ jw_se_X3_endZ ha0 rfl rfl dX3_lay_58 (w_X3_endZ (d - 1) _ _ (by omega) hW  ha0 ) (by omega) (Nat.zero_le _) (Nat.zero_le _) (Nat.le_of_ble_eq_true rfl) (fun r58 V58 h58 => ?_)
      obtain ⟨⟨y58, rfl, hl58, hh58⟩, hE58⟩ := h58
      have hE58 := hE58.symm
      subst hE58
      refine J_aload_n dX3_lay_61 rfl ?_
      refine J_get jf_X3_9 dX3_lay_62 hO1 hF26 ?_
      refine J_iload_n dX3_lay_65 rfl ?_
      refine J_callS2 moX0_shiftZ jw_ml_X3_66 jw_st_X0_shiftZ dX3_lay_66 (w_X0_shiftZ (d - 1) _ _ _ (by omega)    ) (by omega) (Nat.zero_le _) (Nat.zero_le _) (Nat.le_of_ble_eq_true rfl) (fun r66 V66 h66 => ?_)
      obtain ⟨⟨y66, rfl, hl66, hh66⟩, hE66⟩ := h66
      have hE66 := hE66.symm
      subst hE66
      refine J_iadd dX3_lay_69 ?_
      refine J_istore dX3_lay_70 rfl (by decide) ?_
      refine J_aload_n dX3_lay_72 rfl ?_
      obtain ⟨w73, hF73, b73, rfl, hb73⟩ := hK1.2 1 (.inr (some (.inl 6))) rfl
      refine J_get jf_X3_30 dX3_lay_73 hO1 hF73 ?_
      refine J_aload_n dX3_lay_76 rfl ?_
      refine J_get jf_X3_15 dX3_lay_77 hO1 hF1 ?_
      refine J_iload_n dX3_lay_80 rfl ?_
      refine J_callSN3 moX6_put (host := "WalkGrounds") (List.mem_of_getElem? (i := 1) rfl) jw_st_X6_put dX3_lay_81 (w_X6_put (d - 1) _ _ _ _ hW hb73 rfl rfl) (by omega) (Nat.zero_le _) (Nat.zero_le _) (Nat.le_of_ble_eq_true rfl) (fun r81 V81 h81 => ?_)
      obtain ⟨hW, hx81, hr81⟩ := h81
      have he := he.trans (hx81.sub (jsub_of rfl))
      have ha0 := ha0.mono hx81.1
      have hb73 := hb73.mono hx81.1
      have hO1 := hx81.2 _ _ hO1 (jnot_of rfl)
      have hK1 := hK1.mono hx81.1
      cases hr81
      refine J_aload_n dX3_lay_84 rfl ?_
      refine J_dup dX3_lay_85 rfl ?_
      refine J_get jf_X3_15 dX3_lay_86 hO1 hF1 ?_
      refine J_iconst (v := 1) dX3_lay_89 (by decide) ?_
      refine J_iadd dX3_lay_90 ?_
      refine Jw_putI hW id ha0 rfl jf_X3_15 jt_X3_6 dX3_lay_91 (by have h1 := jm_up (Int32.not_le.mp c8); omega) (by have h1 := jm_up (Int32.not_le.mp c8); have h2 := jlt.mp (Int32.not_le.mp c8); omega) rfl rfl (fun V91 hW hx91 => ?_)
      have he := he.trans (hx91.sub (jsub_of rfl))
      have ha0 := ha0.mono hx91.1
      refine J_aload_n dX3_lay_94 rfl ?_
      obtain ⟨fs95, hO95, hK95⟩ := WT_obj hW id ha0
      obtain ⟨w95, hF95, b95, rfl, hb95⟩ := hK95.2 2 (.inr (some (.inl 34))) rfl
      refine J_get jf_X3_34 dX3_lay_95 hO95 hF95 ?_
      refine J_aload_n dX3_lay_98 rfl ?_
      obtain ⟨w99, hF99, y99, rfl, hl99, hh99⟩ := hK95.2 6 (.inl (0, 120)) rfl
      dsimp only at hl99 hh99
      refine J_get jf_X3_15 dX3_lay_99 hO95 hF99 ?_
      refine J_iload_n dX3_lay_102 rfl ?_
      refine J_callSN3 moX6_put (host := "WalkGrounds") (List.mem_of_getElem? (i := 1) rfl) jw_st_X6_put dX3_lay_103 (w_X6_put (d - 1) _ _ _ _ hW hb95 rfl rfl) (by omega) (Nat.zero_le _) (Nat.zero_le _) (Nat.le_of_ble_eq_true rfl) (fun r103 V103 h103 => ?_)
      obtain ⟨hW, hx103, hr103⟩ := h103
      have he := he.trans (hx103.sub (jsub_of rfl))
      have ha0 := ha0.mono hx103.1
      have hb95 := hb95.mono hx103.1
      have hO95 := hx103.2 _ _ hO95 (jnot_of rfl)
      have hK95 := hK95.mono hx103.1
      cases hr103
      refine J_aload_n dX3_lay_106 rfl ?_
      obtain ⟨w107, hF107, b107, rfl, hb107⟩ := hK95.2 3 (.inr (some (.inl 35))) rfl
      refine J_get jf_X3_37 dX3_lay_107 hO95 hF107 ?_
      refine J_aload_n dX3_lay_110 rfl ?_
      refine J_get jf_X3_15 dX3_lay_111 hO95 hF99 ?_
      refine J_iload_n dX3_lay_114 rfl ?_
      refine J_callSN3 moX6_put (host := "WalkGrounds") (List.mem_of_getElem? (i := 1) rfl) jw_st_X6_put dX3_lay_115 (w_X6_put (d - 1) _ _ _ _ hW hb107 rfl rfl) (by omega) (Nat.zero_le _) (Nat.zero_le _) (Nat.le_of_ble_eq_true rfl) (fun r115 V115 h115 => ?_)
      obtain ⟨hW, hx115, hr115⟩ := h115
      have he := he.trans (hx115.sub (jsub_of rfl))
      have ha0 := ha0.mono hx115.1
      have hb95 := hb95.mono hx115.1
      have hb107 := hb107.mono hx115.1
      have hO95 := hx115.2 _ _ hO95 (jnot_of rfl)
      have hK95 := hK95.mono hx115.1
      cases hr115
      refine J_aload_n dX3_lay_118 rfl ?_
      obtain ⟨w119, hF119, b119, rfl, hb119⟩ := hK95.2 4 (.inr (some (.inl 36))) rfl
      refine J_get jf_X3_40 dX3_lay_119 hO95 hF119 ?_
      refine J_aload_n dX3_lay_122 rfl ?_
      refine J_get jf_X3_15 dX3_lay_123 hO95 hF99 ?_
      refine J_iload dX3_lay_126 rfl ?_
      refine J_callSN3 moX6_put (host := "WalkGrounds") (List.mem_of_getElem? (i := 1) rfl) jw_st_X6_put dX3_lay_128 (w_X6_put (d - 1) _ _ _ _ hW hb119 rfl rfl) (by omega) (Nat.zero_le _) (Nat.zero_le _) (Nat.le_of_ble_eq_true rfl) (fun r128 V128 h128 => ?_)
      obtain ⟨hW, hx128, hr128⟩ := h128
      have he := he.trans (hx128.sub (jsub_of rfl))
      have ha0 := ha0.mono hx128.1
      have hb95 := hb95.mono hx128.1
      have hb107 := hb107.mono hx128.1
      have hb119 := hb119.mono hx128.1
      have hO95 := hx128.2 _ _ hO95 (jnot_of rfl)
      have hK95 := hK95.mono hx128.1
      cases hr128
      refine J_iconst (v := 1) dX3_lay_131 (by decide) ?_
      exact J_ret (r := some (.int _)) dX3_lay_132 ⟨rfl, _, rfl, (by first | rfl | exact nar_b (by assumption) (by assumption))⟩ (⟨hW, he, _, rfl, by first | decide | assumption | omega, by first | decide | assumption | omega⟩)
    · refine J_iconst (v := 0) dX3_lay_19 (by decide) ?_
      exact J_ret (r := some (.int _)) dX3_lay_20 ⟨rfl, _, rfl, (by first | rfl | exact nar_b (by assumption) (by assumption))⟩ (⟨hW, he, _, rfl, by first | decide | assumption | omega, by first | decide | assumption | omega⟩)
set_option maxRecDepth 100000 in
set_option maxHeartbeats 4000000 in
theorem w_X3_drop {tS : jTS} (d : Nat) (V0 : jH) (a0 : Nat) (x1 : Int32)  (hd : 1 ≤ d) (hW : WT V0) (ha0 : jis V0 (.inr 1) a0)  : jTot tS mX3_drop d [.ref a0, .int x1] V0 0 0 (jPost [.inr 1] V0 rV) := by
  refine jTot.of_J [some (.ref a0), some (.int x1)] moX3_drop (Nat.le_of_ble_eq_true rfl) rfl ?_
  have he : jeff [.inr 1] V0 V0 := jeff.refl _ _
  refine J_aload_n dX3_drop_0 rfl ?_
  refine J_iconst (v := 0) dX3_drop_1 (by decide) ?_
  refine J_aload_n dX3_drop_2 rfl ?_
  obtain ⟨fs3, hO3, hK3⟩ := WT_obj hW id ha0
  obtain ⟨w3, hF3, y3, rfl, hl3, hh3⟩ := hK3.2 6 (.inl (0, 120)) rfl
  dsimp only at hl3 hh3
  refine J_get jf_X3_15 dX3_drop_3 hO3 hF3 ?_
  refine J_iconst (v := 0) dX3_drop_6 (by decide) ?_
  refine J_iload_n dX3_drop_7 rfl ?_
  refine J_mmax jw_ml_X3_24 dX3_drop_8 (by omega) (Nat.le_of_ble_eq_true rfl) ?_
  refine J_isub dX3_drop_11 ?_
  refine J_mmax jw_ml_X3_24 dX3_drop_12 (by omega) (Nat.le_of_ble_eq_true rfl) ?_
  refine Jw_putI hW id ha0 rfl jf_X3_15 jt_X3_6 dX3_drop_15 (jdrop_lo (by assumption) (by assumption)) (jdrop_hi (by assumption) (by assumption)) rfl rfl (fun V15 hW hx15 => ?_)
  have he := he.trans (hx15.sub (jsub_of rfl))
  have ha0 := ha0.mono hx15.1
  exact J_ret (r := none) dX3_drop_18 ⟨rfl, rfl⟩ (⟨hW, he, rfl⟩)
set_option maxRecDepth 100000 in
set_option maxHeartbeats 4000000 in
theorem w_X3_become {tS : jTS} (d : Nat) (V0 : jH) (a0 : Nat) (a1 : Nat)  (hd : 1 ≤ d) (hW : WT V0) (ha0 : jis V0 (.inr 1) a0) (ha1 : jis V0 (.inr 1) a1)  : jTot tS mX3_become d [.ref a0, .ref a1] V0 0 0 (jPost [.inr 1, .inl 6, .inl 34, .inl 35, .inl 36] V0 rV) := by
  refine jTot.of_J [some (.ref a0), some (.ref a1), none] moX3_become (Nat.le_of_ble_eq_true rfl) rfl ?_
  have he : jeff [.inr 1, .inl 6, .inl 34, .inl 35, .inl 36] V0 V0 := jeff.refl _ _
  refine J_aload_n dX3_become_0 rfl ?_
  refine J_ifnull dX3_become_1 ?_
  refine J_aload_n dX3_become_4 rfl ?_
  obtain ⟨fs5, hO5, hK5⟩ := WT_obj hW id ha1
  obtain ⟨w5, hF5, y5, rfl, hl5, hh5⟩ := hK5.2 6 (.inl (0, 120)) rfl
  dsimp only at hl5 hh5
  refine J_get jf_X3_15 dX3_become_5 hO5 hF5 ?_
  refine J_aload_n dX3_become_8 rfl ?_
  obtain ⟨fs9, hO9, hK9⟩ := WT_obj hW id ha0
  obtain ⟨w9, hF9, y9, rfl, hl9, hh9⟩ := hK9.2 0 (.inl (0, 120)) rfl
  dsimp only at hl9 hh9
  refine J_get jf_X3_27 dX3_become_9 hO9 hF9 ?_
  refine J_icmp_le (tgt := 16) dX3_become_12 (by decide) (fun c12 => ?_) (fun c12 => ?_)
  · refine J_aload_n dX3_become_16 rfl ?_
    refine J_aload_n dX3_become_17 rfl ?_
    obtain ⟨w18, hF18, y18, rfl, hl18, hh18⟩ := hK5.2 5 (.inl ((-2147483648), 2147483647)) rfl
    dsimp only at hl18 hh18
    refine J_get jf_X3_9 dX3_become_18 hO5 hF18 ?_
    refine Jw_putI hW id ha0 rfl jf_X3_9 jt_X3_5 dX3_become_21 (j_rng _).1 (j_rng _).2 rfl rfl (fun V21 hW hx21 => ?_)
    have he := he.trans (hx21.sub (jsub_of rfl))
    have ha0 := ha0.mono hx21.1
    have ha1 := ha1.mono hx21.1
    refine J_aload_n dX3_become_24 rfl ?_
    refine J_aload_n dX3_become_25 rfl ?_
    obtain ⟨fs26, hO26, hK26⟩ := WT_obj hW id ha1
    obtain ⟨w26, hF26, y26, rfl, hl26, hh26⟩ := hK26.2 6 (.inl (0, 120)) rfl
    dsimp only at hl26 hh26
    refine J_get jf_X3_15 dX3_become_26 hO26 hF26 ?_
    refine Jw_putI hW id ha0 rfl jf_X3_15 jt_X3_6 dX3_become_29 (by first | decide | assumption | omega) (by first | decide | assumption | omega) rfl rfl (fun V29 hW hx29 => ?_)
    have he := he.trans (hx29.sub (jsub_of rfl))
    have ha0 := ha0.mono hx29.1
    have ha1 := ha1.mono hx29.1
    refine J_iconst (v := 0) dX3_become_32 (by decide) ?_
    refine J_istore_n dX3_become_33 rfl (by decide) ?_
    have L34 : ∀ (N : Nat) (V : jH) (i2 : Int32), WT V → jeff [.inr 1, .inl 6, .inl 34, .inl 35, .inl 36] V0 V → jis V (.inr 1) a0 → jis V (.inr 1) a1 → (2147483648 - i2.toInt).toNat < N → J tS mX3_become d 34 [some (.ref a0), some (.ref a1), some (.int i2)] [] V 0 0 (jPost [.inr 1, .inl 6, .inl 34, .inl 35, .inl 36] V0 rV) := by
      intro N
      induction N with
      | zero => intro V i2 hW he ha0 ha1  hm; exact absurd hm (Nat.not_lt_zero _)
      | succ N ih =>
        intro V i2 hW he ha0 ha1  hm
        have ih34 := ih
        refine J_iload_n dX3_become_34 rfl ?_
        refine J_aload_n dX3_become_35 rfl ?_
        obtain ⟨fs36, hO36, hK36⟩ := WT_obj hW id ha0
        obtain ⟨w36, hF36, y36, rfl, hl36, hh36⟩ := hK36.2 6 (.inl (0, 120)) rfl
        dsimp only at hl36 hh36
        refine J_get jf_X3_15 dX3_become_36 hO36 hF36 ?_
        refine J_icmp_gt (tgt := 112) dX3_become_39 (by decide) (fun c39 => ?_) (fun c39 => ?_)
        · exact J_ret (r := none) dX3_become_112 ⟨rfl, rfl⟩ (⟨hW, he, rfl⟩)
        · refine J_aload_n dX3_become_42 rfl ?_
          obtain ⟨w43, hF43, b43, rfl, hb43⟩ := hK36.2 1 (.inr (some (.inl 6))) rfl
          refine J_get jf_X3_30 dX3_become_43 hO36 hF43 ?_
          refine J_iload_n dX3_become_46 rfl ?_
          refine J_aload_n dX3_become_47 rfl ?_
          obtain ⟨fs48, hO48, hK48⟩ := WT_obj hW id ha1
          obtain ⟨w48, hF48, b48, rfl, hb48⟩ := hK48.2 1 (.inr (some (.inl 6))) rfl
          refine J_get jf_X3_30 dX3_become_48 hO48 hF48 ?_
          refine J_iload_n dX3_become_51 rfl ?_
          refine J_callSN2 moX6_cell (host := "WalkGrounds") (List.mem_of_getElem? (i := 0) rfl) jw_st_X6_cell dX3_become_52 (w_X6_cell (d - 1) _ _ _ hW hb48 rfl rfl) (by omega) (Nat.zero_le _) (Nat.zero_le _) (Nat.le_of_ble_eq_true rfl) (fun r52 V52 h52 => ?_)
          obtain ⟨⟨y52, rfl, hl52, hh52⟩, hE52⟩ := h52
          have hE52 := hE52.symm
          subst hE52
          refine J_callSN3 moX6_put (host := "WalkGrounds") (List.mem_of_getElem? (i := 1) rfl) jw_st_X6_put dX3_become_55 (w_X6_put (d - 1) _ _ _ _ hW hb43 rfl rfl) (by omega) (Nat.zero_le _) (Nat.zero_le _) (Nat.le_of_ble_eq_true rfl) (fun r55 V55 h55 => ?_)
          obtain ⟨hW, hx55, hr55⟩ := h55
          have he := he.trans (hx55.sub (jsub_of rfl))
          have ha0 := ha0.mono hx55.1
          have ha1 := ha1.mono hx55.1
          have hb43 := hb43.mono hx55.1
          have hb48 := hb48.mono hx55.1
          have hO36 := hx55.2 _ _ hO36 (jnot_of rfl)
          have hK36 := hK36.mono hx55.1
          have hO48 := hx55.2 _ _ hO48 (jnot_of rfl)
          have hK48 := hK48.mono hx55.1
          cases hr55
          refine J_aload_n dX3_become_58 rfl ?_
          obtain ⟨w59, hF59, b59, rfl, hb59⟩ := hK36.2 2 (.inr (some (.inl 34))) rfl
          refine J_get jf_X3_34 dX3_become_59 hO36 hF59 ?_
          refine J_iload_n dX3_become_62 rfl ?_
          refine J_aload_n dX3_become_63 rfl ?_
          obtain ⟨w64, hF64, b64, rfl, hb64⟩ := hK48.2 2 (.inr (some (.inl 34))) rfl
          refine J_get jf_X3_34 dX3_become_64 hO48 hF64 ?_
          refine J_iload_n dX3_become_67 rfl ?_
          refine J_callSN2 moX6_cell (host := "WalkGrounds") (List.mem_of_getElem? (i := 0) rfl) jw_st_X6_cell dX3_become_68 (w_X6_cell (d - 1) _ _ _ hW hb64 rfl rfl) (by omega) (Nat.zero_le _) (Nat.zero_le _) (Nat.le_of_ble_eq_true rfl) (fun r68 V68 h68 => ?_)
          obtain ⟨⟨y68, rfl, hl68, hh68⟩, hE68⟩ := h68
          have hE68 := hE68.symm
          subst hE68
          refine J_callSN3 moX6_put (host := "WalkGrounds") (List.mem_of_getElem? (i := 1) rfl) jw_st_X6_put dX3_become_71 (w_X6_put (d - 1) _ _ _ _ hW hb59 rfl rfl) (by omega) (Nat.zero_le _) (Nat.zero_le _) (Nat.le_of_ble_eq_true rfl) (fun r71 V71 h71 => ?_)
          obtain ⟨hW, hx71, hr71⟩ := h71
          have he := he.trans (hx71.sub (jsub_of rfl))
          have ha0 := ha0.mono hx71.1
          have ha1 := ha1.mono hx71.1
          have hb43 := hb43.mono hx71.1
          have hb48 := hb48.mono hx71.1
          have hb59 := hb59.mono hx71.1
          have hb64 := hb64.mono hx71.1
          have hO36 := hx71.2 _ _ hO36 (jnot_of rfl)
          have hK36 := hK36.mono hx71.1
          have hO48 := hx71.2 _ _ hO48 (jnot_of rfl)
          have hK48 := hK48.mono hx71.1
          cases hr71
          refine J_aload_n dX3_become_74 rfl ?_
          obtain ⟨w75, hF75, b75, rfl, hb75⟩ := hK36.2 3 (.inr (some (.inl 35))) rfl
          refine J_get jf_X3_37 dX3_become_75 hO36 hF75 ?_
          refine J_iload_n dX3_become_78 rfl ?_
          refine J_aload_n dX3_become_79 rfl ?_
          obtain ⟨w80, hF80, b80, rfl, hb80⟩ := hK48.2 3 (.inr (some (.inl 35))) rfl
          refine J_get jf_X3_37 dX3_become_80 hO48 hF80 ?_
          refine J_iload_n dX3_become_83 rfl ?_
          refine J_callSN2 moX6_cell (host := "WalkGrounds") (List.mem_of_getElem? (i := 0) rfl) jw_st_X6_cell dX3_become_84 (w_X6_cell (d - 1) _ _ _ hW hb80 rfl rfl) (by omega) (Nat.zero_le _) (Nat.zero_le _) (Nat.le_of_ble_eq_true rfl) (fun r84 V84 h84 => ?_)
          obtain ⟨⟨y84, rfl, hl84, hh84⟩, hE84⟩ := h84
          have hE84 := hE84.symm
          subst hE84
          refine J_callSN3 moX6_put (host := "WalkGrounds") (List.mem_of_getElem? (i := 1) rfl) jw_st_X6_put dX3_become_87 (w_X6_put (d - 1) _ _ _ _ hW hb75 rfl rfl) (by omega) (Nat.zero_le _) (Nat.zero_le _) (Nat.le_of_ble_eq_true rfl) (fun r87 V87 h87 => ?_)
          obtain ⟨hW, hx87, hr87⟩ := h87
          have he := he.trans (hx87.sub (jsub_of rfl))
          have ha0 := ha0.mono hx87.1
          have ha1 := ha1.mono hx87.1
          have hb43 := hb43.mono hx87.1
          have hb48 := hb48.mono hx87.1
          have hb59 := hb59.mono hx87.1
          have hb64 := hb64.mono hx87.1
          have hb75 := hb75.mono hx87.1
          have hb80 := hb80.mono hx87.1
          have hO36 := hx87.2 _ _ hO36 (jnot_of rfl)
          have hK36 := hK36.mono hx87.1
          have hO48 := hx87.2 _ _ hO48 (jnot_of rfl)
          have hK48 := hK48.mono hx87.1
          cases hr87
          refine J_aload_n dX3_become_90 rfl ?_
          obtain ⟨w91, hF91, b91, rfl, hb91⟩ := hK36.2 4 (.inr (some (.inl 36))) rfl
          refine J_get jf_X3_40 dX3_become_91 hO36 hF91 ?_
          refine J_iload_n dX3_become_94 rfl ?_
          refine J_aload_n dX3_become_95 rfl ?_
          obtain ⟨w96, hF96, b96, rfl, hb96⟩ := hK48.2 4 (.inr (some (.inl 36))) rfl
          refine J_get jf_X3_40 dX3_become_96 hO48 hF96 ?_
          refine J_iload_n dX3_become_99 rfl ?_
          refine J_callSN2 moX6_cell (host := "WalkGrounds") (List.mem_of_getElem? (i := 0) rfl) jw_st_X6_cell dX3_become_100 (w_X6_cell (d - 1) _ _ _ hW hb96 rfl rfl) (by omega) (Nat.zero_le _) (Nat.zero_le _) (Nat.le_of_ble_eq_true rfl) (fun r100 V100 h100 => ?_)
          obtain ⟨⟨y100, rfl, hl100, hh100⟩, hE100⟩ := h100
          have hE100 := hE100.symm
          subst hE100
          refine J_callSN3 moX6_put (host := "WalkGrounds") (List.mem_of_getElem? (i := 1) rfl) jw_st_X6_put dX3_become_103 (w_X6_put (d - 1) _ _ _ _ hW hb91 rfl rfl) (by omega) (Nat.zero_le _) (Nat.zero_le _) (Nat.le_of_ble_eq_true rfl) (fun r103 V103 h103 => ?_)
          obtain ⟨hW, hx103, hr103⟩ := h103
          have he := he.trans (hx103.sub (jsub_of rfl))
          have ha0 := ha0.mono hx103.1
          have ha1 := ha1.mono hx103.1
          have hb43 := hb43.mono hx103.1
          have hb48 := hb48.mono hx103.1
          have hb59 := hb59.mono hx103.1
          have hb64 := hb64.mono hx103.1
          have hb75 := hb75.mono hx103.1
          have hb80 := hb80.mono hx103.1
          have hb91 := hb91.mono hx103.1
          have hb96 := hb96.mono hx103.1
          have hO36 := hx103.2 _ _ hO36 (jnot_of rfl)
          have hK36 := hK36.mono hx103.1
          have hO48 := hx103.2 _ _ hO48 (jnot_of rfl)
          have hK48 := hK48.mono hx103.1
          cases hr103
          refine J_iinc dX3_become_106 rfl j_inc1 rfl (by decide) ?_
          refine J_goto (tgt := 34) dX3_become_109 (by decide) ?_
          refine J.mask [true, true, true] ?_
          exact ih34 _ _ hW he ha0 ha1  (by have h8 := j_rng i2; have h9 := jm_le c39 (by omega); omega)
    refine J.mask [true, true, true] ?_
    exact L34 _ _ _ hW he ha0 ha1  (Nat.lt_succ_self _)
  · exact J_ret (r := none) dX3_become_15 ⟨rfl, rfl⟩ (⟨hW, he, rfl⟩)
set_option maxRecDepth 100000 in
set_option maxHeartbeats 4000000 in
theorem w_X3_isRing {tS : jTS} (d : Nat) (V0 : jH) (a0 : Nat)  (hd : 2 ≤ d) (hW : WT V0) (ha0 : jis V0 (.inr 1) a0)  : jTot tS mX3_isRing d [.ref a0] V0 0 0 (fun r V => (rI 0 1) r V ∧ V = V0) := by
  refine jTot.of_J [some (.ref a0)] moX3_isRing (Nat.le_of_ble_eq_true rfl) rfl ?_
  have he : jeff [] V0 V0 := jeff.refl _ _
  refine J_aload_n dX3_isRing_0 rfl ?_
  obtain ⟨fs1, hO1, hK1⟩ := WT_obj hW id ha0
  obtain ⟨w1, hF1, y1, rfl, hl1, hh1⟩ := hK1.2 6 (.inl (0, 120)) rfl
  dsimp only at hl1 hh1
  refine J_get jf_X3_15 dX3_isRing_1 hO1 hF1 ?_
  refine J_iconst (v := 2) dX3_isRing_4 (by decide) ?_
  refine J_icmp_lt (tgt := 34) dX3_isRing_5 (by decide) (fun c5 => ?_) (fun c5 => ?_)
  · refine J_iconst (v := 0) dX3_isRing_34 (by decide) ?_
    exact J_ret (r := some (.int _)) dX3_isRing_35 ⟨rfl, _, rfl, (by first | rfl | exact nar_b (by assumption) (by assumption))⟩ (⟨⟨_, rfl, by first | decide | assumption | omega, by first | decide | assumption | omega⟩, rfl⟩)
  · refine J_aload_n dX3_isRing_8 rfl ?_
    obtain ⟨w9, hF9, y9, rfl, hl9, hh9⟩ := hK1.2 5 (.inl ((-2147483648), 2147483647)) rfl
    dsimp only at hl9 hh9
    refine J_get jf_X3_9 dX3_isRing_9 hO1 hF9 ?_
    refine J_aload_n dX3_isRing_12 rfl ?_
    refine Jw_callV0 (q9 := (RX3, TX3, 7)) moX3_endX jw_ml_X3_47 jw_im_X3_endX jw_se_X3_endX ha0 rfl rfl dX3_isRing_13 (w_X3_endX (d - 1) _ _ (by omega) hW  ha0 ) (by omega) (Nat.zero_le _) (Nat.zero_le _) (Nat.le_of_ble_eq_true rfl) (fun r13 V13 h13 => ?_)
    obtain ⟨⟨y13, rfl, hl13, hh13⟩, hE13⟩ := h13
    have hE13 := hE13.symm
    subst hE13
    refine J_aload_n dX3_isRing_16 rfl ?_
    refine Jw_callV0 (q9 := (RX3, TX3, 7)) moX3_endY jw_ml_X3_56 jw_im_X3_endY jw_se_X3_endY ha0 rfl rfl dX3_isRing_17 (w_X3_endY (d - 1) _ _ (by omega) hW  ha0 ) (by omega) (Nat.zero_le _) (Nat.zero_le _) (Nat.le_of_ble_eq_true rfl) (fun r17 V17 h17 => ?_)
    obtain ⟨⟨y17, rfl, hl17, hh17⟩, hE17⟩ := h17
    have hE17 := hE17.symm
    subst hE17
    refine J_aload_n dX3_isRing_20 rfl ?_
    refine Jw_callV0 (q9 := (RX3, TX3, 7)) moX3_endZ jw_ml_X3_63 jw_im_X3_endZ jw_se_X3_endZ ha0 rfl rfl dX3_isRing_21 (w_X3_endZ (d - 1) _ _ (by omega) hW  ha0 ) (by omega) (Nat.zero_le _) (Nat.zero_le _) (Nat.le_of_ble_eq_true rfl) (fun r21 V21 h21 => ?_)
    obtain ⟨⟨y21, rfl, hl21, hh21⟩, hE21⟩ := h21
    have hE21 := hE21.symm
    subst hE21
    refine J_callS4 moX0_isBesideBeginning jw_ml_X3_81 jw_st_X0_isBesideBeginning dX3_isRing_24 (w_X0_isBesideBeginning (d - 1) _ _ _ _ _ (by omega)    ) (by omega) (Nat.zero_le _) (Nat.zero_le _) (Nat.le_of_ble_eq_true rfl) (fun r24 V24 h24 => ?_)
    obtain ⟨⟨y24, rfl, hl24, hh24⟩, hE24⟩ := h24
    have hE24 := hE24.symm
    subst hE24
    refine J_if_eq (tgt := 34) dX3_isRing_27 (by decide) (fun c27 => ?_) (fun c27 => ?_)
    · refine J_iconst (v := 0) dX3_isRing_34 (by decide) ?_
      exact J_ret (r := some (.int _)) dX3_isRing_35 ⟨rfl, _, rfl, (by first | rfl | exact nar_b (by assumption) (by assumption))⟩ (⟨⟨_, rfl, by first | decide | assumption | omega, by first | decide | assumption | omega⟩, rfl⟩)
    · refine J_iconst (v := 1) dX3_isRing_30 (by decide) ?_
      refine J_goto (tgt := 35) dX3_isRing_31 (by decide) ?_
      exact J_ret (r := some (.int _)) dX3_isRing_35 ⟨rfl, _, rfl, (by first | rfl | exact nar_b (by assumption) (by assumption))⟩ (⟨⟨_, rfl, by first | decide | assumption | omega, by first | decide | assumption | omega⟩, rfl⟩)
set_option maxRecDepth 100000 in
set_option maxHeartbeats 4000000 in
theorem w_X3_twiceArea {tS : jTS} (d : Nat) (V0 : jH) (a0 : Nat)  (hd : 1 ≤ d) (hW : WT V0) (ha0 : jis V0 (.inr 1) a0)  : jTot tS mX3_twiceArea d [.ref a0] V0 0 0 (fun r V => rN r V ∧ V = V0) := by
  refine jTot.of_J [some (.ref a0), none, none] moX3_twiceArea (Nat.le_of_ble_eq_true rfl) rfl ?_
  have he : jeff [] V0 V0 := jeff.refl _ _
  refine J_iconst (v := 0) dX3_twiceArea_0 (by decide) ?_
  refine J_istore_n dX3_twiceArea_1 rfl (by decide) ?_
  refine J_iconst (v := 0) dX3_twiceArea_2 (by decide) ?_
  refine J_istore_n dX3_twiceArea_3 rfl (by decide) ?_
  have L4 : ∀ (N : Nat) (i1 : Int32) (i2 : Int32), WT V0 → jeff [] V0 V0 → jis V0 (.inr 1) a0 → (2147483648 - i2.toInt).toNat < N → J tS mX3_twiceArea d 4 [some (.ref a0), some (.int i1), some (.int i2)] [] V0 0 0 (fun r V => rN r V ∧ V = V0) := by
    intro N
    induction N with
    | zero => intro i1 i2 hW he ha0  hm; exact absurd hm (Nat.not_lt_zero _)
    | succ N ih =>
      intro i1 i2 hW he ha0  hm
      have ih4 := ih
      refine J_iload_n dX3_twiceArea_4 rfl ?_
      refine J_aload_n dX3_twiceArea_5 rfl ?_
      obtain ⟨fs6, hO6, hK6⟩ := WT_obj hW id ha0
      obtain ⟨w6, hF6, y6, rfl, hl6, hh6⟩ := hK6.2 6 (.inl (0, 120)) rfl
      dsimp only at hl6 hh6
      refine J_get jf_X3_15 dX3_twiceArea_6 hO6 hF6 ?_
      refine J_icmp_ge (tgt := 60) dX3_twiceArea_9 (by decide) (fun c9 => ?_) (fun c9 => ?_)
      · refine J_iload_n dX3_twiceArea_60 rfl ?_
        refine J_mabs jw_ml_X3_85 dX3_twiceArea_61 (by omega) (Nat.le_of_ble_eq_true rfl) ?_
        exact J_ret (r := some (.int _)) dX3_twiceArea_64 ⟨rfl, _, rfl, rfl⟩ (⟨rN_of _, rfl⟩)
      · refine J_iload_n dX3_twiceArea_12 rfl ?_
        refine J_aload_n dX3_twiceArea_13 rfl ?_
        obtain ⟨w14, hF14, b14, rfl, hb14⟩ := hK6.2 2 (.inr (some (.inl 34))) rfl
        refine J_get jf_X3_34 dX3_twiceArea_14 hO6 hF14 ?_
        refine J_iload_n dX3_twiceArea_17 rfl ?_
        refine J_callSN2 moX6_cell (host := "WalkGrounds") (List.mem_of_getElem? (i := 0) rfl) jw_st_X6_cell dX3_twiceArea_18 (w_X6_cell (d - 1) _ _ _ hW hb14 rfl rfl) (by omega) (Nat.zero_le _) (Nat.zero_le _) (Nat.le_of_ble_eq_true rfl) (fun r18 V18 h18 => ?_)
        obtain ⟨⟨y18, rfl, hl18, hh18⟩, hE18⟩ := h18
        have hE18 := hE18.symm
        subst hE18
        refine J_aload_n dX3_twiceArea_21 rfl ?_
        obtain ⟨w22, hF22, b22, rfl, hb22⟩ := hK6.2 3 (.inr (some (.inl 35))) rfl
        refine J_get jf_X3_37 dX3_twiceArea_22 hO6 hF22 ?_
        refine J_iload_n dX3_twiceArea_25 rfl ?_
        refine J_iconst (v := 1) dX3_twiceArea_26 (by decide) ?_
        refine J_iadd dX3_twiceArea_27 ?_
        refine J_callSN2 moX6_cell (host := "WalkGrounds") (List.mem_of_getElem? (i := 0) rfl) jw_st_X6_cell dX3_twiceArea_28 (w_X6_cell (d - 1) _ _ _ hW hb22 rfl rfl) (by omega) (Nat.zero_le _) (Nat.zero_le _) (Nat.le_of_ble_eq_true rfl) (fun r28 V28 h28 => ?_)
        obtain ⟨⟨y28, rfl, hl28, hh28⟩, hE28⟩ := h28
        have hE28 := hE28.symm
        subst hE28
        refine J_imul dX3_twiceArea_31 ?_
        refine J_aload_n dX3_twiceArea_32 rfl ?_
        refine J_get jf_X3_34 dX3_twiceArea_33 hO6 hF14 ?_
        refine J_iload_n dX3_twiceArea_36 rfl ?_
        refine J_iconst (v := 1) dX3_twiceArea_37 (by decide) ?_
        refine J_iadd dX3_twiceArea_38 ?_
        refine J_callSN2 moX6_cell (host := "WalkGrounds") (List.mem_of_getElem? (i := 0) rfl) jw_st_X6_cell dX3_twiceArea_39 (w_X6_cell (d - 1) _ _ _ hW hb14 rfl rfl) (by omega) (Nat.zero_le _) (Nat.zero_le _) (Nat.le_of_ble_eq_true rfl) (fun r39 V39 h39 => ?_)
        obtain ⟨⟨y39, rfl, hl39, hh39⟩, hE39⟩ := h39
        have hE39 := hE39.symm
        subst hE39
        refine J_aload_n dX3_twiceArea_42 rfl ?_
        refine J_get jf_X3_37 dX3_twiceArea_43 hO6 hF22 ?_
        refine J_iload_n dX3_twiceArea_46 rfl ?_
        refine J_callSN2 moX6_cell (host := "WalkGrounds") (List.mem_of_getElem? (i := 0) rfl) jw_st_X6_cell dX3_twiceArea_47 (w_X6_cell (d - 1) _ _ _ hW hb22 rfl rfl) (by omega) (Nat.zero_le _) (Nat.zero_le _) (Nat.le_of_ble_eq_true rfl) (fun r47 V47 h47 => ?_)
        obtain ⟨⟨y47, rfl, hl47, hh47⟩, hE47⟩ := h47
        have hE47 := hE47.symm
        subst hE47
        refine J_imul dX3_twiceArea_50 ?_
        refine J_isub dX3_twiceArea_51 ?_
        refine J_iadd dX3_twiceArea_52 ?_
        refine J_istore_n dX3_twiceArea_53 rfl (by decide) ?_
        refine J_iinc dX3_twiceArea_54 rfl j_inc1 rfl (by decide) ?_
        refine J_goto (tgt := 4) dX3_twiceArea_57 (by decide) ?_
        refine J.mask [true, true, true] ?_
        exact ih4  _ _ hW he ha0  (jdec_up (Int32.not_le.mp c9) (by assumption))
  refine J.mask [true, true, true] ?_
  exact L4 _  _ _ hW he ha0  (Nat.lt_succ_self _)
set_option maxRecDepth 100000 in
set_option maxHeartbeats 4000000 in
theorem w_X3_bends {tS : jTS} (d : Nat) (V0 : jH) (a0 : Nat)  (hd : 2 ≤ d) (hW : WT V0) (ha0 : jis V0 (.inr 1) a0)  : jTot tS mX3_bends d [.ref a0] V0 0 0 (fun r V => rN r V ∧ V = V0) := by
  refine jTot.of_J [some (.ref a0), none, none] moX3_bends (Nat.le_of_ble_eq_true rfl) rfl ?_
  have he : jeff [] V0 V0 := jeff.refl _ _
  refine J_iconst (v := 0) dX3_bends_0 (by decide) ?_
  refine J_istore_n dX3_bends_1 rfl (by decide) ?_
  refine J_iconst (v := 1) dX3_bends_2 (by decide) ?_
  refine J_istore_n dX3_bends_3 rfl (by decide) ?_
  have L4 : ∀ (N : Nat) (i1 : Int32) (i2 : Int32), WT V0 → jeff [] V0 V0 → jis V0 (.inr 1) a0 → (2147483648 - i2.toInt).toNat < N → J tS mX3_bends d 4 [some (.ref a0), some (.int i1), some (.int i2)] [] V0 0 0 (fun r V => rN r V ∧ V = V0) := by
    intro N
    induction N with
    | zero => intro i1 i2 hW he ha0  hm; exact absurd hm (Nat.not_lt_zero _)
    | succ N ih =>
      intro i1 i2 hW he ha0  hm
      have ih4 := ih
      refine J_iload_n dX3_bends_4 rfl ?_
      refine J_aload_n dX3_bends_5 rfl ?_
      obtain ⟨fs6, hO6, hK6⟩ := WT_obj hW id ha0
      obtain ⟨w6, hF6, y6, rfl, hl6, hh6⟩ := hK6.2 6 (.inl (0, 120)) rfl
      dsimp only at hl6 hh6
      refine J_get jf_X3_15 dX3_bends_6 hO6 hF6 ?_
      refine J_icmp_ge (tgt := 36) dX3_bends_9 (by decide) (fun c9 => ?_) (fun c9 => ?_)
      · refine J_iload_n dX3_bends_36 rfl ?_
        exact J_ret (r := some (.int _)) dX3_bends_37 ⟨rfl, _, rfl, rfl⟩ (⟨rN_of _, rfl⟩)
      · refine J_aload_n dX3_bends_12 rfl ?_
        refine J_iload_n dX3_bends_13 rfl ?_
        refine Jw_callV1 (q9 := (RX3, TX3, 7)) moX3_direction jw_ml_X3_89 jw_im_X3_direction jw_se_X3_direction ha0 rfl rfl dX3_bends_14 (w_X3_direction (d - 1) _ _ _ (by omega) hW  ha0 ) (by omega) (Nat.zero_le _) (Nat.zero_le _) (Nat.le_of_ble_eq_true rfl) (fun r14 V14 h14 => ?_)
        obtain ⟨⟨y14, rfl, hl14, hh14⟩, hE14⟩ := h14
        have hE14 := hE14.symm
        subst hE14
        refine J_aload_n dX3_bends_17 rfl ?_
        refine J_iload_n dX3_bends_18 rfl ?_
        refine J_iconst (v := 1) dX3_bends_19 (by decide) ?_
        refine J_isub dX3_bends_20 ?_
        refine Jw_callV1 (q9 := (RX3, TX3, 7)) moX3_direction jw_ml_X3_89 jw_im_X3_direction jw_se_X3_direction ha0 rfl rfl dX3_bends_21 (w_X3_direction (d - 1) _ _ _ (by omega) hW  ha0 ) (by omega) (Nat.zero_le _) (Nat.zero_le _) (Nat.le_of_ble_eq_true rfl) (fun r21 V21 h21 => ?_)
        obtain ⟨⟨y21, rfl, hl21, hh21⟩, hE21⟩ := h21
        have hE21 := hE21.symm
        subst hE21
        refine J_icmp_eq (tgt := 30) dX3_bends_24 (by decide) (fun c24 => ?_) (fun c24 => ?_)
        · refine J_iinc dX3_bends_30 rfl j_inc1 rfl (by decide) ?_
          refine J_goto (tgt := 4) dX3_bends_33 (by decide) ?_
          refine J.mask [true, true, true] ?_
          exact ih4  _ _ hW he ha0  (jdec_up (Int32.not_le.mp c9) (by assumption))
        · refine J_iinc dX3_bends_27 rfl j_inc1 rfl (by decide) ?_
          refine J_iinc dX3_bends_30 rfl j_inc1 rfl (by decide) ?_
          refine J_goto (tgt := 4) dX3_bends_33 (by decide) ?_
          refine J.mask [true, true, true] ?_
          exact ih4  _ _ hW he ha0  (jdec_up (Int32.not_le.mp c9) (by assumption))
  refine J.mask [true, true, true] ?_
  exact L4 _  _ _ hW he ha0  (Nat.lt_succ_self _)
set_option maxRecDepth 100000 in
set_option maxHeartbeats 4000000 in
theorem w_X3_isBridge {tS : jTS} (d : Nat) (V0 : jH) (a0 : Nat)  (hd : 2 ≤ d) (hW : WT V0) (ha0 : jis V0 (.inr 1) a0)  : jTot tS mX3_isBridge d [.ref a0] V0 0 0 (fun r V => (rI 0 1) r V ∧ V = V0) := by
  refine jTot.of_J [some (.ref a0), none] moX3_isBridge (Nat.le_of_ble_eq_true rfl) rfl ?_
  have he : jeff [] V0 V0 := jeff.refl _ _
  refine J_iconst (v := 1) dX3_isBridge_0 (by decide) ?_
  refine J_istore_n dX3_isBridge_1 rfl (by decide) ?_
  have L2 : ∀ (N : Nat) (i1 : Int32), WT V0 → jeff [] V0 V0 → jis V0 (.inr 1) a0 → (2147483648 - i1.toInt).toNat < N → J tS mX3_isBridge d 2 [some (.ref a0), some (.int i1)] [] V0 0 0 (fun r V => (rI 0 1) r V ∧ V = V0) := by
    intro N
    induction N with
    | zero => intro i1 hW he ha0  hm; exact absurd hm (Nat.not_lt_zero _)
    | succ N ih =>
      intro i1 hW he ha0  hm
      have ih2 := ih
      refine J_iload_n dX3_isBridge_2 rfl ?_
      refine J_aload_n dX3_isBridge_3 rfl ?_
      obtain ⟨fs4, hO4, hK4⟩ := WT_obj hW id ha0
      obtain ⟨w4, hF4, y4, rfl, hl4, hh4⟩ := hK4.2 6 (.inl (0, 120)) rfl
      dsimp only at hl4 hh4
      refine J_get jf_X3_15 dX3_isBridge_4 hO4 hF4 ?_
      refine J_icmp_gt (tgt := 44) dX3_isBridge_7 (by decide) (fun c7 => ?_) (fun c7 => ?_)
      · refine J_iconst (v := 1) dX3_isBridge_44 (by decide) ?_
        exact J_ret (r := some (.int _)) dX3_isBridge_45 ⟨rfl, _, rfl, (by first | rfl | exact nar_b (by assumption) (by assumption))⟩ (⟨⟨_, rfl, by first | decide | assumption | omega, by first | decide | assumption | omega⟩, rfl⟩)
      · refine J_aload_n dX3_isBridge_10 rfl ?_
        obtain ⟨w11, hF11, b11, rfl, hb11⟩ := hK4.2 2 (.inr (some (.inl 34))) rfl
        refine J_get jf_X3_34 dX3_isBridge_11 hO4 hF11 ?_
        refine J_iload_n dX3_isBridge_14 rfl ?_
        refine J_callSN2 moX6_cell (host := "WalkGrounds") (List.mem_of_getElem? (i := 0) rfl) jw_st_X6_cell dX3_isBridge_15 (w_X6_cell (d - 1) _ _ _ hW hb11 rfl rfl) (by omega) (Nat.zero_le _) (Nat.zero_le _) (Nat.le_of_ble_eq_true rfl) (fun r15 V15 h15 => ?_)
        obtain ⟨⟨y15, rfl, hl15, hh15⟩, hE15⟩ := h15
        have hE15 := hE15.symm
        subst hE15
        refine J_if_le (tgt := 36) dX3_isBridge_18 (by decide) (fun c18 => ?_) (fun c18 => ?_)
        · refine J_iconst (v := 0) dX3_isBridge_36 (by decide) ?_
          exact J_ret (r := some (.int _)) dX3_isBridge_37 ⟨rfl, _, rfl, (by first | rfl | exact nar_b (by assumption) (by assumption))⟩ (⟨⟨_, rfl, by first | decide | assumption | omega, by first | decide | assumption | omega⟩, rfl⟩)
        · refine J_aload_n dX3_isBridge_21 rfl ?_
          refine J_get jf_X3_34 dX3_isBridge_22 hO4 hF11 ?_
          refine J_iload_n dX3_isBridge_25 rfl ?_
          refine J_callSN2 moX6_cell (host := "WalkGrounds") (List.mem_of_getElem? (i := 0) rfl) jw_st_X6_cell dX3_isBridge_26 (w_X6_cell (d - 1) _ _ _ hW hb11 rfl rfl) (by omega) (Nat.zero_le _) (Nat.zero_le _) (Nat.le_of_ble_eq_true rfl) (fun r26 V26 h26 => ?_)
          obtain ⟨⟨y26, rfl, hl26, hh26⟩, hE26⟩ := h26
          have hE26 := hE26.symm
          subst hE26
          refine J_aload_n dX3_isBridge_29 rfl ?_
          refine Jw_callV0 (q9 := (RX3, TX3, 7)) moX3_endX jw_ml_X3_47 jw_im_X3_endX jw_se_X3_endX ha0 rfl rfl dX3_isBridge_30 (w_X3_endX (d - 1) _ _ (by omega) hW  ha0 ) (by omega) (Nat.zero_le _) (Nat.zero_le _) (Nat.le_of_ble_eq_true rfl) (fun r30 V30 h30 => ?_)
          obtain ⟨⟨y30, rfl, hl30, hh30⟩, hE30⟩ := h30
          have hE30 := hE30.symm
          subst hE30
          refine J_icmp_le (tgt := 38) dX3_isBridge_33 (by decide) (fun c33 => ?_) (fun c33 => ?_)
          · refine J_iinc dX3_isBridge_38 rfl j_inc1 rfl (by decide) ?_
            refine J_goto (tgt := 2) dX3_isBridge_41 (by decide) ?_
            refine J.mask [true, true] ?_
            exact ih2  _ hW he ha0  (by have h8 := j_rng i1; have h9 := jm_le c7 (by omega); omega)
          · refine J_iconst (v := 0) dX3_isBridge_36 (by decide) ?_
            exact J_ret (r := some (.int _)) dX3_isBridge_37 ⟨rfl, _, rfl, (by first | rfl | exact nar_b (by assumption) (by assumption))⟩ (⟨⟨_, rfl, by first | decide | assumption | omega, by first | decide | assumption | omega⟩, rfl⟩)
  refine J.mask [true, true] ?_
  exact L2 _  _ hW he ha0  (Nat.lt_succ_self _)
set_option maxRecDepth 100000 in
set_option maxHeartbeats 4000000 in
theorem w_X3_leadsOn {tS : jTS} (d : Nat) (V0 : jH) (a0 : Nat)  (hd : 3 ≤ d) (hW : WT V0) (ha0 : jis V0 (.inr 1) a0)  : jTot tS mX3_leadsOn d [.ref a0] V0 0 0 (fun r V => rN r V ∧ V = V0) := by
  refine jTot.of_J [some (.ref a0), none, none] moX3_leadsOn (Nat.le_of_ble_eq_true rfl) rfl ?_
  have he : jeff [] V0 V0 := jeff.refl _ _
  refine J_iconst (v := 0) dX3_leadsOn_0 (by decide) ?_
  refine J_istore_n dX3_leadsOn_1 rfl (by decide) ?_
  refine J_iconst (v := 0) dX3_leadsOn_2 (by decide) ?_
  refine J_istore_n dX3_leadsOn_3 rfl (by decide) ?_
  have L4 : ∀ (N : Nat) (i1 : Int32) (i2 : Int32), WT V0 → jeff [] V0 V0 → jis V0 (.inr 1) a0 → (2147483648 - i2.toInt).toNat < N → J tS mX3_leadsOn d 4 [some (.ref a0), some (.int i1), some (.int i2)] [] V0 0 0 (fun r V => rN r V ∧ V = V0) := by
    intro N
    induction N with
    | zero => intro i1 i2 hW he ha0  hm; exact absurd hm (Nat.not_lt_zero _)
    | succ N ih =>
      intro i1 i2 hW he ha0  hm
      have ih4 := ih
      refine J_iload_n dX3_leadsOn_4 rfl ?_
      refine J_aload_n dX3_leadsOn_5 rfl ?_
      obtain ⟨fs6, hO6, hK6⟩ := WT_obj hW id ha0
      obtain ⟨w6, hF6, y6, rfl, hl6, hh6⟩ := hK6.2 5 (.inl ((-2147483648), 2147483647)) rfl
      dsimp only at hl6 hh6
      refine J_get jf_X3_9 dX3_leadsOn_6 hO6 hF6 ?_
      refine J_callS1 moX0_directions jw_ml_X3_92 jw_st_X0_directions dX3_leadsOn_9 (w_X0_directions (d - 1) _ _ (by omega)    ) (by omega) (Nat.zero_le _) (Nat.zero_le _) (Nat.le_of_ble_eq_true rfl) (fun r9 V9 h9 => ?_)
      obtain ⟨⟨y9, rfl, hl9, hh9⟩, hE9⟩ := h9
      have hE9 := hE9.symm
      subst hE9
      refine J_icmp_ge (tgt := 32) dX3_leadsOn_12 (by decide) (fun c12 => ?_) (fun c12 => ?_)
      · refine J_iload_n dX3_leadsOn_32 rfl ?_
        exact J_ret (r := some (.int _)) dX3_leadsOn_33 ⟨rfl, _, rfl, rfl⟩ (⟨rN_of _, rfl⟩)
      · refine J_aload_n dX3_leadsOn_15 rfl ?_
        refine J_iload_n dX3_leadsOn_16 rfl ?_
        refine Jw_callV1 (q9 := (RX3, TX3, 7)) moX3_leads jw_ml_X3_73 jw_im_X3_leads jw_se_X3_leads ha0 rfl rfl dX3_leadsOn_17 (w_X3_leads (d - 1) _ _ _ (by omega) hW  ha0 ) (by omega) (Nat.zero_le _) (Nat.zero_le _) (Nat.le_of_ble_eq_true rfl) (fun r17 V17 h17 => ?_)
        obtain ⟨⟨y17, rfl, hl17, hh17⟩, hE17⟩ := h17
        have hE17 := hE17.symm
        subst hE17
        refine J_if_eq (tgt := 26) dX3_leadsOn_20 (by decide) (fun c20 => ?_) (fun c20 => ?_)
        · refine J_iinc dX3_leadsOn_26 rfl j_inc1 rfl (by decide) ?_
          refine J_goto (tgt := 4) dX3_leadsOn_29 (by decide) ?_
          refine J.mask [true, true, true] ?_
          exact ih4  _ _ hW he ha0  (jdec_up (Int32.not_le.mp c12) (by assumption))
        · refine J_iinc dX3_leadsOn_23 rfl j_inc1 rfl (by decide) ?_
          refine J_iinc dX3_leadsOn_26 rfl j_inc1 rfl (by decide) ?_
          refine J_goto (tgt := 4) dX3_leadsOn_29 (by decide) ?_
          refine J.mask [true, true, true] ?_
          exact ih4  _ _ hW he ha0  (jdec_up (Int32.not_le.mp c12) (by assumption))
  refine J.mask [true, true, true] ?_
  exact L4 _  _ _ hW he ha0  (Nat.lt_succ_self _)
set_option maxRecDepth 100000 in
set_option maxHeartbeats 4000000 in
theorem w_X3_digestOnto {tS : jTS} (d : Nat) (V0 : jH) (a0 : Nat) (x1 : Int64)  (hd : 2 ≤ d) (hW : WT V0) (ha0 : jis V0 (.inr 1) a0)  : jTot tS mX3_digestOnto d [.ref a0, .long x1] V0 0 0 (fun r V => rL r V ∧ V = V0) := by
  refine jTot.of_J [some (.ref a0), some (.long x1), none, none, none, none] moX3_digestOnto (Nat.le_of_ble_eq_true rfl) rfl ?_
  have he : jeff [] V0 V0 := jeff.refl _ _
  refine J_ldc2 jw_k_X3_95 dX3_digestOnto_0 ?_
  refine J_lload_n dX3_digestOnto_3 rfl ?_
  refine J_lmul dX3_digestOnto_4 ?_
  refine J_aload_n dX3_digestOnto_5 rfl ?_
  obtain ⟨fs6, hO6, hK6⟩ := WT_obj hW id ha0
  obtain ⟨w6, hF6, y6, rfl, hl6, hh6⟩ := hK6.2 5 (.inl ((-2147483648), 2147483647)) rfl
  dsimp only at hl6 hh6
  refine J_get jf_X3_9 dX3_digestOnto_6 hO6 hF6 ?_
  refine J_i2l dX3_digestOnto_9 rfl ?_
  refine J_ladd dX3_digestOnto_10 ?_
  refine J_lstore_n dX3_digestOnto_11 rfl (by decide) ?_
  refine J_iconst (v := 0) dX3_digestOnto_12 (by decide) ?_
  refine J_istore dX3_digestOnto_13 rfl (by decide) ?_
  have L15 : ∀ (N : Nat) (i3 : Int64) (i5 : Int32), WT V0 → jeff [] V0 V0 → jis V0 (.inr 1) a0 → (2147483648 - i5.toInt).toNat < N → J tS mX3_digestOnto d 15 [some (.ref a0), some (.long x1), none, some (.long i3), none, some (.int i5)] [] V0 0 0 (fun r V => rL r V ∧ V = V0) := by
    intro N
    induction N with
    | zero => intro i3 i5 hW he ha0  hm; exact absurd hm (Nat.not_lt_zero _)
    | succ N ih =>
      intro i3 i5 hW he ha0  hm
      have ih15 := ih
      refine J_iload dX3_digestOnto_15 rfl ?_
      refine J_aload_n dX3_digestOnto_17 rfl ?_
      obtain ⟨fs18, hO18, hK18⟩ := WT_obj hW id ha0
      obtain ⟨w18, hF18, y18, rfl, hl18, hh18⟩ := hK18.2 6 (.inl (0, 120)) rfl
      dsimp only at hl18 hh18
      refine J_get jf_X3_15 dX3_digestOnto_18 hO18 hF18 ?_
      refine J_icmp_ge (tgt := 44) dX3_digestOnto_21 (by decide) (fun c21 => ?_) (fun c21 => ?_)
      · refine J_lload_n dX3_digestOnto_44 rfl ?_
        exact J_ret (r := some (.long _)) dX3_digestOnto_45 ⟨rfl, rfl⟩ (⟨⟨_, rfl⟩, rfl⟩)
      · refine J_ldc2 jw_k_X3_95 dX3_digestOnto_24 ?_
        refine J_lload_n dX3_digestOnto_27 rfl ?_
        refine J_lmul dX3_digestOnto_28 ?_
        refine J_aload_n dX3_digestOnto_29 rfl ?_
        refine J_iload dX3_digestOnto_30 rfl ?_
        refine Jw_callV1 (q9 := (RX3, TX3, 7)) moX3_direction jw_ml_X3_89 jw_im_X3_direction jw_se_X3_direction ha0 rfl rfl dX3_digestOnto_32 (w_X3_direction (d - 1) _ _ _ (by omega) hW  ha0 ) (by omega) (Nat.zero_le _) (Nat.zero_le _) (Nat.le_of_ble_eq_true rfl) (fun r32 V32 h32 => ?_)
        obtain ⟨⟨y32, rfl, hl32, hh32⟩, hE32⟩ := h32
        have hE32 := hE32.symm
        subst hE32
        refine J_i2l dX3_digestOnto_35 rfl ?_
        refine J_ladd dX3_digestOnto_36 ?_
        refine J_lstore_n dX3_digestOnto_37 rfl (by decide) ?_
        refine J_iinc dX3_digestOnto_38 rfl j_inc1 rfl (by decide) ?_
        refine J_goto (tgt := 15) dX3_digestOnto_41 (by decide) ?_
        refine J.mask [true, true, false, true, false, true] ?_
        exact ih15  _ _ hW he ha0  (jdec_up (Int32.not_le.mp c21) (by assumption))
  refine J.mask [true, true, false, true, false, true] ?_
  exact L15 _  _ _ hW he ha0  (Nat.lt_succ_self _)
