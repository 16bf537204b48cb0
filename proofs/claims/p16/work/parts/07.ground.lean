set_option maxRecDepth 100000 in
set_option maxHeartbeats 4000000 in
theorem w_X0_shiftX {tS : jTS} (d : Nat) (V0 : jH) (x0 : Int32) (x1 : Int32)  (hd : 0 ≤ d)    : jTot tS mX0_shiftX d [.int x0, .int x1] V0 0 0 (fun r V => rN r V ∧ V = V0) := by
  refine jTot.of_J [some (.int x0), some (.int x1), none] moX0_shiftX (Nat.le_of_ble_eq_true rfl) rfl ?_
  refine J_bipush (v := 6) dX0_shiftX_0 (by decide) ?_
  refine J_iload_n dX0_shiftX_2 rfl ?_
  refine J_imul dX0_shiftX_3 ?_
  refine J_iload_n dX0_shiftX_4 rfl ?_
  refine J_iadd dX0_shiftX_5 ?_
  refine J_istore_n dX0_shiftX_6 rfl (by decide) ?_
  refine J_iload_n dX0_shiftX_7 rfl ?_
  refine J_if_lt (tgt := 27) dX0_shiftX_8 (by decide) (fun c8 => ?_) (fun c8 => ?_)
  · refine J_iconst (v := 0) dX0_shiftX_27 (by decide) ?_
    exact J_ret (r := some (.int _)) dX0_shiftX_28 ⟨rfl, _, rfl, rfl⟩ (⟨rN_of _, rfl⟩)
  · refine J_iload_n dX0_shiftX_11 rfl ?_
    refine J_gets (k := 0) rfl jw_fl_X0_18 dX0_shiftX_12 ?_
    refine J_tlen (k := 0) rfl dX0_shiftX_15 rfl ?_
    refine J_icmp_ge (tgt := 27) dX0_shiftX_16 (by decide) (fun c16 => ?_) (fun c16 => ?_)
    · refine J_iconst (v := 0) dX0_shiftX_27 (by decide) ?_
      exact J_ret (r := some (.int _)) dX0_shiftX_28 ⟨rfl, _, rfl, rfl⟩ (⟨rN_of _, rfl⟩)
    · refine J_gets (k := 0) rfl jw_fl_X0_18 dX0_shiftX_19 ?_
      refine J_iload_n dX0_shiftX_22 rfl ?_
      refine J_ti (k := 0) rfl rfl dX0_shiftX_23 (by exact vp_in_g (by assumption) (by assumption) (by decide)) rfl ?_
      refine J_goto (tgt := 28) dX0_shiftX_24 (by decide) ?_
      exact J_ret (r := some (.int _)) dX0_shiftX_28 ⟨rfl, _, rfl, rfl⟩ (⟨rN_of _, rfl⟩)
set_option maxRecDepth 100000 in
set_option maxHeartbeats 4000000 in
theorem w_X0_isEven {tS : jTS} (d : Nat) (V0 : jH) (x0 : Int32) (x1 : Int32)  (hd : 0 ≤ d)    : jTot tS mX0_isEven d [.int x0, .int x1] V0 0 0 (fun r V => rN r V ∧ V = V0) := by
  refine jTot.of_J [some (.int x0), some (.int x1)] moX0_isEven (Nat.le_of_ble_eq_true rfl) rfl ?_
  refine J_iload_n dX0_isEven_0 rfl ?_
  refine J_iload_n dX0_isEven_1 rfl ?_
  refine J_iadd dX0_isEven_2 ?_
  refine J_iconst (v := 1) dX0_isEven_3 (by decide) ?_
  refine J_iand dX0_isEven_4 ?_
  refine J_if_ne (tgt := 12) dX0_isEven_5 (by decide) (fun c5 => ?_) (fun c5 => ?_)
  · refine J_iconst (v := 0) dX0_isEven_12 (by decide) ?_
    exact J_ret (r := some (.int _)) dX0_isEven_13 ⟨rfl, _, rfl, (by first | rfl | exact nar_b (by assumption) (by assumption))⟩ (⟨rN_of _, rfl⟩)
  · refine J_iconst (v := 1) dX0_isEven_8 (by decide) ?_
    refine J_goto (tgt := 13) dX0_isEven_9 (by decide) ?_
    exact J_ret (r := some (.int _)) dX0_isEven_13 ⟨rfl, _, rfl, (by first | rfl | exact nar_b (by assumption) (by assumption))⟩ (⟨rN_of _, rfl⟩)
set_option maxRecDepth 100000 in
set_option maxHeartbeats 4000000 in
theorem w_X0_shiftY {tS : jTS} (d : Nat) (V0 : jH) (x0 : Int32) (x1 : Int32) (x2 : Int32) (x3 : Int32)  (hd : 1 ≤ d)    : jTot tS mX0_shiftY d [.int x0, .int x1, .int x2, .int x3] V0 0 0 (fun r V => rN r V ∧ V = V0) := by
  refine jTot.of_J [some (.int x0), some (.int x1), some (.int x2), some (.int x3), none] moX0_shiftY (Nat.le_of_ble_eq_true rfl) rfl ?_
  refine J_iload_n dX0_shiftY_0 rfl ?_
  refine J_iconst (v := 2) dX0_shiftY_1 (by decide) ?_
  refine J_icmp_ne (tgt := 24) dX0_shiftY_2 (by decide) (fun c2 => ?_) (fun c2 => ?_)
  · refine J_bipush (v := 6) dX0_shiftY_24 (by decide) ?_
    refine J_iload_n dX0_shiftY_26 rfl ?_
    refine J_imul dX0_shiftY_27 ?_
    refine J_iload_n dX0_shiftY_28 rfl ?_
    refine J_iadd dX0_shiftY_29 ?_
    refine J_istore dX0_shiftY_30 rfl (by decide) ?_
    refine J_iload dX0_shiftY_32 rfl ?_
    refine J_if_lt (tgt := 55) dX0_shiftY_34 (by decide) (fun c34 => ?_) (fun c34 => ?_)
    · refine J_iconst (v := 0) dX0_shiftY_55 (by decide) ?_
      exact J_ret (r := some (.int _)) dX0_shiftY_56 ⟨rfl, _, rfl, rfl⟩ (⟨rN_of _, rfl⟩)
    · refine J_iload dX0_shiftY_37 rfl ?_
      refine J_gets (k := 1) rfl jw_fl_X0_26 dX0_shiftY_39 ?_
      refine J_tlen (k := 1) rfl dX0_shiftY_42 rfl ?_
      refine J_icmp_ge (tgt := 55) dX0_shiftY_43 (by decide) (fun c43 => ?_) (fun c43 => ?_)
      · refine J_iconst (v := 0) dX0_shiftY_55 (by decide) ?_
        exact J_ret (r := some (.int _)) dX0_shiftY_56 ⟨rfl, _, rfl, rfl⟩ (⟨rN_of _, rfl⟩)
      · refine J_gets (k := 1) rfl jw_fl_X0_26 dX0_shiftY_46 ?_
        refine J_iload dX0_shiftY_49 rfl ?_
        refine J_ti (k := 1) rfl rfl dX0_shiftY_51 (by exact vp_in_g (by assumption) (by assumption) (by decide)) rfl ?_
        refine J_goto (tgt := 56) dX0_shiftY_52 (by decide) ?_
        exact J_ret (r := some (.int _)) dX0_shiftY_56 ⟨rfl, _, rfl, rfl⟩ (⟨rN_of _, rfl⟩)
  · refine J_iload_n dX0_shiftY_5 rfl ?_
    refine J_iconst (v := 2) dX0_shiftY_6 (by decide) ?_
    refine J_icmp_ne (tgt := 24) dX0_shiftY_7 (by decide) (fun c7 => ?_) (fun c7 => ?_)
    · refine J_bipush (v := 6) dX0_shiftY_24 (by decide) ?_
      refine J_iload_n dX0_shiftY_26 rfl ?_
      refine J_imul dX0_shiftY_27 ?_
      refine J_iload_n dX0_shiftY_28 rfl ?_
      refine J_iadd dX0_shiftY_29 ?_
      refine J_istore dX0_shiftY_30 rfl (by decide) ?_
      refine J_iload dX0_shiftY_32 rfl ?_
      refine J_if_lt (tgt := 55) dX0_shiftY_34 (by decide) (fun c34 => ?_) (fun c34 => ?_)
      · refine J_iconst (v := 0) dX0_shiftY_55 (by decide) ?_
        exact J_ret (r := some (.int _)) dX0_shiftY_56 ⟨rfl, _, rfl, rfl⟩ (⟨rN_of _, rfl⟩)
      · refine J_iload dX0_shiftY_37 rfl ?_
        refine J_gets (k := 1) rfl jw_fl_X0_26 dX0_shiftY_39 ?_
        refine J_tlen (k := 1) rfl dX0_shiftY_42 rfl ?_
        refine J_icmp_ge (tgt := 55) dX0_shiftY_43 (by decide) (fun c43 => ?_) (fun c43 => ?_)
        · refine J_iconst (v := 0) dX0_shiftY_55 (by decide) ?_
          exact J_ret (r := some (.int _)) dX0_shiftY_56 ⟨rfl, _, rfl, rfl⟩ (⟨rN_of _, rfl⟩)
        · refine J_gets (k := 1) rfl jw_fl_X0_26 dX0_shiftY_46 ?_
          refine J_iload dX0_shiftY_49 rfl ?_
          refine J_ti (k := 1) rfl rfl dX0_shiftY_51 (by exact vp_in_g (by assumption) (by assumption) (by decide)) rfl ?_
          refine J_goto (tgt := 56) dX0_shiftY_52 (by decide) ?_
          exact J_ret (r := some (.int _)) dX0_shiftY_56 ⟨rfl, _, rfl, rfl⟩ (⟨rN_of _, rfl⟩)
    · refine J_iload_n dX0_shiftY_10 rfl ?_
      refine J_iload_n dX0_shiftY_11 rfl ?_
      refine J_callS2 moX0_isEven jw_ml_X0_22 jw_st_X0_isEven dX0_shiftY_12 (w_X0_isEven (d - 1) _ _ _ (by omega)    ) (by omega) (Nat.zero_le _) (Nat.zero_le _) (Nat.le_of_ble_eq_true rfl) (fun r12 V12 h12 => ?_)
      obtain ⟨⟨y12, rfl, hl12, hh12⟩, hE12⟩ := h12
      have hE12 := hE12.symm
      subst hE12
      refine J_if_eq (tgt := 22) dX0_shiftY_15 (by decide) (fun c15 => ?_) (fun c15 => ?_)
      · refine J_iconst (v := -1) dX0_shiftY_22 (by decide) ?_
        exact J_ret (r := some (.int _)) dX0_shiftY_23 ⟨rfl, _, rfl, rfl⟩ (⟨rN_of _, rfl⟩)
      · refine J_iconst (v := 1) dX0_shiftY_18 (by decide) ?_
        refine J_goto (tgt := 23) dX0_shiftY_19 (by decide) ?_
        exact J_ret (r := some (.int _)) dX0_shiftY_23 ⟨rfl, _, rfl, rfl⟩ (⟨rN_of _, rfl⟩)
set_option maxRecDepth 100000 in
set_option maxHeartbeats 4000000 in
theorem w_X0_shiftZ {tS : jTS} (d : Nat) (V0 : jH) (x0 : Int32) (x1 : Int32)  (hd : 0 ≤ d)    : jTot tS mX0_shiftZ d [.int x0, .int x1] V0 0 0 (fun r V => rN r V ∧ V = V0) := by
  refine jTot.of_J [some (.int x0), some (.int x1)] moX0_shiftZ (Nat.le_of_ble_eq_true rfl) rfl ?_
  refine J_iload_n dX0_shiftZ_0 rfl ?_
  refine J_iconst (v := 3) dX0_shiftZ_1 (by decide) ?_
  refine J_icmp_eq (tgt := 7) dX0_shiftZ_2 (by decide) (fun c2 => ?_) (fun c2 => ?_)
  · refine J_iload_n dX0_shiftZ_7 rfl ?_
    refine J_iconst (v := 2) dX0_shiftZ_8 (by decide) ?_
    refine J_icmp_ne (tgt := 16) dX0_shiftZ_9 (by decide) (fun c9 => ?_) (fun c9 => ?_)
    · refine J_iload_n dX0_shiftZ_16 rfl ?_
      refine J_iconst (v := 5) dX0_shiftZ_17 (by decide) ?_
      refine J_icmp_ne (tgt := 25) dX0_shiftZ_18 (by decide) (fun c18 => ?_) (fun c18 => ?_)
      · refine J_iconst (v := 0) dX0_shiftZ_25 (by decide) ?_
        exact J_ret (r := some (.int _)) dX0_shiftZ_26 ⟨rfl, _, rfl, rfl⟩ (⟨rN_of _, rfl⟩)
      · refine J_iconst (v := -1) dX0_shiftZ_21 (by decide) ?_
        refine J_goto (tgt := 26) dX0_shiftZ_22 (by decide) ?_
        exact J_ret (r := some (.int _)) dX0_shiftZ_26 ⟨rfl, _, rfl, rfl⟩ (⟨rN_of _, rfl⟩)
    · refine J_iconst (v := 1) dX0_shiftZ_12 (by decide) ?_
      refine J_goto (tgt := 26) dX0_shiftZ_13 (by decide) ?_
      exact J_ret (r := some (.int _)) dX0_shiftZ_26 ⟨rfl, _, rfl, rfl⟩ (⟨rN_of _, rfl⟩)
  · refine J_iconst (v := 0) dX0_shiftZ_5 (by decide) ?_
    exact J_ret (r := some (.int _)) dX0_shiftZ_6 ⟨rfl, _, rfl, rfl⟩ (⟨rN_of _, rfl⟩)
set_option maxRecDepth 100000 in
set_option maxHeartbeats 4000000 in
theorem w_X0_directions {tS : jTS} (d : Nat) (V0 : jH) (x0 : Int32)  (hd : 0 ≤ d)    : jTot tS mX0_directions d [.int x0] V0 0 0 (fun r V => rN r V ∧ V = V0) := by
  refine jTot.of_J [some (.int x0)] moX0_directions (Nat.le_of_ble_eq_true rfl) rfl ?_
  refine J_iload_n dX0_directions_0 rfl ?_
  refine J_if_ne (tgt := 8) dX0_directions_1 (by decide) (fun c1 => ?_) (fun c1 => ?_)
  · refine J_iload_n dX0_directions_8 rfl ?_
    refine J_iconst (v := 2) dX0_directions_9 (by decide) ?_
    refine J_icmp_ne (tgt := 17) dX0_directions_10 (by decide) (fun c10 => ?_) (fun c10 => ?_)
    · refine J_bipush (v := 6) dX0_directions_17 (by decide) ?_
      exact J_ret (r := some (.int _)) dX0_directions_19 ⟨rfl, _, rfl, rfl⟩ (⟨rN_of _, rfl⟩)
    · refine J_iconst (v := 3) dX0_directions_13 (by decide) ?_
      refine J_goto (tgt := 19) dX0_directions_14 (by decide) ?_
      exact J_ret (r := some (.int _)) dX0_directions_19 ⟨rfl, _, rfl, rfl⟩ (⟨rN_of _, rfl⟩)
  · refine J_iconst (v := 4) dX0_directions_4 (by decide) ?_
    refine J_goto (tgt := 19) dX0_directions_5 (by decide) ?_
    exact J_ret (r := some (.int _)) dX0_directions_19 ⟨rfl, _, rfl, rfl⟩ (⟨rN_of _, rfl⟩)
set_option maxRecDepth 100000 in
set_option maxHeartbeats 4000000 in
theorem w_X0_isDirection {tS : jTS} (d : Nat) (V0 : jH) (x0 : Int32) (x1 : Int32)  (hd : 1 ≤ d)    : jTot tS mX0_isDirection d [.int x0, .int x1] V0 0 0 (fun r V => rN r V ∧ V = V0) := by
  refine jTot.of_J [some (.int x0), some (.int x1)] moX0_isDirection (Nat.le_of_ble_eq_true rfl) rfl ?_
  refine J_iload_n dX0_isDirection_0 rfl ?_
  refine J_if_lt (tgt := 16) dX0_isDirection_1 (by decide) (fun c1 => ?_) (fun c1 => ?_)
  · refine J_iconst (v := 0) dX0_isDirection_16 (by decide) ?_
    exact J_ret (r := some (.int _)) dX0_isDirection_17 ⟨rfl, _, rfl, (by first | rfl | exact nar_b (by assumption) (by assumption))⟩ (⟨rN_of _, rfl⟩)
  · refine J_iload_n dX0_isDirection_4 rfl ?_
    refine J_iload_n dX0_isDirection_5 rfl ?_
    refine J_callS1 moX0_directions jw_ml_X0_9 jw_st_X0_directions dX0_isDirection_6 (w_X0_directions (d - 1) _ _ (by omega)    ) (by omega) (Nat.zero_le _) (Nat.zero_le _) (Nat.le_of_ble_eq_true rfl) (fun r6 V6 h6 => ?_)
    obtain ⟨⟨y6, rfl, hl6, hh6⟩, hE6⟩ := h6
    have hE6 := hE6.symm
    subst hE6
    refine J_icmp_ge (tgt := 16) dX0_isDirection_9 (by decide) (fun c9 => ?_) (fun c9 => ?_)
    · refine J_iconst (v := 0) dX0_isDirection_16 (by decide) ?_
      exact J_ret (r := some (.int _)) dX0_isDirection_17 ⟨rfl, _, rfl, (by first | rfl | exact nar_b (by assumption) (by assumption))⟩ (⟨rN_of _, rfl⟩)
    · refine J_iconst (v := 1) dX0_isDirection_12 (by decide) ?_
      refine J_goto (tgt := 17) dX0_isDirection_13 (by decide) ?_
      exact J_ret (r := some (.int _)) dX0_isDirection_17 ⟨rfl, _, rfl, (by first | rfl | exact nar_b (by assumption) (by assumption))⟩ (⟨rN_of _, rfl⟩)
set_option maxRecDepth 100000 in
set_option maxHeartbeats 4000000 in
theorem w_X0_turns {tS : jTS} (d : Nat) (V0 : jH) (x0 : Int32)  (hd : 0 ≤ d)    : jTot tS mX0_turns d [.int x0] V0 0 0 (fun r V => rN r V ∧ V = V0) := by
  refine jTot.of_J [some (.int x0)] moX0_turns (Nat.le_of_ble_eq_true rfl) rfl ?_
  refine J_iload_n dX0_turns_0 rfl ?_
  rcases jsw3 x0 with hx1 | hx1 | hx1 | hx1 | hx1
  · rw [hx1]
    refine J_tableIn (tgt := 32) dX0_turns_1 (by decide) (by decide) rfl (by decide) ?_
    refine J_bipush (v := 8) dX0_turns_32 (by decide) ?_
    exact J_ret (r := some (.int _)) dX0_turns_34 ⟨rfl, _, rfl, rfl⟩ (⟨rN_of _, rfl⟩)
  · rw [hx1]
    refine J_tableIn (tgt := 35) dX0_turns_1 (by decide) (by decide) rfl (by decide) ?_
    refine J_bipush (v := 12) dX0_turns_35 (by decide) ?_
    exact J_ret (r := some (.int _)) dX0_turns_37 ⟨rfl, _, rfl, rfl⟩ (⟨rN_of _, rfl⟩)
  · rw [hx1]
    refine J_tableIn (tgt := 41) dX0_turns_1 (by decide) (by decide) rfl (by decide) ?_
    refine J_iconst (v := 0) dX0_turns_41 (by decide) ?_
    exact J_ret (r := some (.int _)) dX0_turns_42 ⟨rfl, _, rfl, rfl⟩ (⟨rN_of _, rfl⟩)
  · rw [hx1]
    refine J_tableIn (tgt := 38) dX0_turns_1 (by decide) (by decide) rfl (by decide) ?_
    refine J_bipush (v := 48) dX0_turns_38 (by decide) ?_
    exact J_ret (r := some (.int _)) dX0_turns_40 ⟨rfl, _, rfl, rfl⟩ (⟨rN_of _, rfl⟩)
  · refine J_tableOut (tgt := 41) dX0_turns_1 hx1 (by decide) ?_
    refine J_iconst (v := 0) dX0_turns_41 (by decide) ?_
    exact J_ret (r := some (.int _)) dX0_turns_42 ⟨rfl, _, rfl, rfl⟩ (⟨rN_of _, rfl⟩)
set_option maxRecDepth 100000 in
set_option maxHeartbeats 4000000 in
theorem w_X0_isTurn {tS : jTS} (d : Nat) (V0 : jH) (x0 : Int32) (x1 : Int32)  (hd : 1 ≤ d)    : jTot tS mX0_isTurn d [.int x0, .int x1] V0 0 0 (fun r V => rN r V ∧ V = V0) := by
  refine jTot.of_J [some (.int x0), some (.int x1)] moX0_isTurn (Nat.le_of_ble_eq_true rfl) rfl ?_
  refine J_iload_n dX0_isTurn_0 rfl ?_
  refine J_if_lt (tgt := 16) dX0_isTurn_1 (by decide) (fun c1 => ?_) (fun c1 => ?_)
  · refine J_iconst (v := 0) dX0_isTurn_16 (by decide) ?_
    exact J_ret (r := some (.int _)) dX0_isTurn_17 ⟨rfl, _, rfl, (by first | rfl | exact nar_b (by assumption) (by assumption))⟩ (⟨rN_of _, rfl⟩)
  · refine J_iload_n dX0_isTurn_4 rfl ?_
    refine J_iload_n dX0_isTurn_5 rfl ?_
    refine J_callS1 moX0_turns jw_ml_X0_15 jw_st_X0_turns dX0_isTurn_6 (w_X0_turns (d - 1) _ _ (by omega)    ) (by omega) (Nat.zero_le _) (Nat.zero_le _) (Nat.le_of_ble_eq_true rfl) (fun r6 V6 h6 => ?_)
    obtain ⟨⟨y6, rfl, hl6, hh6⟩, hE6⟩ := h6
    have hE6 := hE6.symm
    subst hE6
    refine J_icmp_ge (tgt := 16) dX0_isTurn_9 (by decide) (fun c9 => ?_) (fun c9 => ?_)
    · refine J_iconst (v := 0) dX0_isTurn_16 (by decide) ?_
      exact J_ret (r := some (.int _)) dX0_isTurn_17 ⟨rfl, _, rfl, (by first | rfl | exact nar_b (by assumption) (by assumption))⟩ (⟨rN_of _, rfl⟩)
    · refine J_iconst (v := 1) dX0_isTurn_12 (by decide) ?_
      refine J_goto (tgt := 17) dX0_isTurn_13 (by decide) ?_
      exact J_ret (r := some (.int _)) dX0_isTurn_17 ⟨rfl, _, rfl, (by first | rfl | exact nar_b (by assumption) (by assumption))⟩ (⟨rN_of _, rfl⟩)
set_option maxRecDepth 100000 in
set_option maxHeartbeats 4000000 in
theorem w_X0_square {tS : jTS} (d : Nat) (V0 : jH) (x0 : Int32) (x1 : Int32) (x2 : Int32) (x3 : Int32)  (hd : 0 ≤ d)    : jTot tS mX0_square d [.int x0, .int x1, .int x2, .int x3] V0 0 0 (fun r V => rN r V ∧ V = V0) := by
  refine jTot.of_J [some (.int x0), some (.int x1), some (.int x2), some (.int x3), none] moX0_square (Nat.le_of_ble_eq_true rfl) rfl ?_
  refine J_iload_n dX0_square_0 rfl ?_
  refine J_iload_n dX0_square_1 rfl ?_
  refine J_imul dX0_square_2 ?_
  refine J_iload_n dX0_square_3 rfl ?_
  refine J_iload_n dX0_square_4 rfl ?_
  refine J_imul dX0_square_5 ?_
  refine J_iadd dX0_square_6 ?_
  refine J_iload_n dX0_square_7 rfl ?_
  refine J_iload_n dX0_square_8 rfl ?_
  refine J_imul dX0_square_9 ?_
  refine J_iadd dX0_square_10 ?_
  refine J_istore dX0_square_11 rfl (by decide) ?_
  refine J_iload_n dX0_square_13 rfl ?_
  refine J_iconst (v := 1) dX0_square_14 (by decide) ?_
  refine J_icmp_ne (tgt := 27) dX0_square_15 (by decide) (fun c15 => ?_) (fun c15 => ?_)
  · refine J_iload dX0_square_27 rfl ?_
    exact J_ret (r := some (.int _)) dX0_square_29 ⟨rfl, _, rfl, rfl⟩ (⟨rN_of _, rfl⟩)
  · refine J_iload dX0_square_18 rfl ?_
    refine J_iload_n dX0_square_20 rfl ?_
    refine J_iload_n dX0_square_21 rfl ?_
    refine J_imul dX0_square_22 ?_
    refine J_iadd dX0_square_23 ?_
    refine J_goto (tgt := 29) dX0_square_24 (by decide) ?_
    exact J_ret (r := some (.int _)) dX0_square_29 ⟨rfl, _, rfl, rfl⟩ (⟨rN_of _, rfl⟩)
set_option maxRecDepth 100000 in
set_option maxHeartbeats 4000000 in
theorem w_X0_opposite {tS : jTS} (d : Nat) (V0 : jH) (x0 : Int32) (x1 : Int32)  (hd : 1 ≤ d)    : jTot tS mX0_opposite d [.int x0, .int x1] V0 0 0 (fun r V => rN r V ∧ V = V0) := by
  refine jTot.of_J [some (.int x0), some (.int x1), none] moX0_opposite (Nat.le_of_ble_eq_true rfl) rfl ?_
  refine J_iload_n dX0_opposite_0 rfl ?_
  refine J_iconst (v := 2) dX0_opposite_1 (by decide) ?_
  refine J_icmp_ne (tgt := 18) dX0_opposite_2 (by decide) (fun c2 => ?_) (fun c2 => ?_)
  · refine J_iload_n dX0_opposite_18 rfl ?_
    refine J_callS1 moX0_directions jw_ml_X0_9 jw_st_X0_directions dX0_opposite_19 (w_X0_directions (d - 1) _ _ (by omega)    ) (by omega) (Nat.zero_le _) (Nat.zero_le _) (Nat.le_of_ble_eq_true rfl) (fun r19 V19 h19 => ?_)
    obtain ⟨⟨y19, rfl, hl19, hh19⟩, hE19⟩ := h19
    have hE19 := hE19.symm
    subst hE19
    refine J_iconst (v := 2) dX0_opposite_22 (by decide) ?_
    refine J_idiv dX0_opposite_23 (by decide) ?_
    refine J_istore_n dX0_opposite_24 rfl (by decide) ?_
    refine J_iload_n dX0_opposite_25 rfl ?_
    refine J_iload_n dX0_opposite_26 rfl ?_
    refine J_icmp_ge (tgt := 36) dX0_opposite_27 (by decide) (fun c27 => ?_) (fun c27 => ?_)
    · refine J_iload_n dX0_opposite_36 rfl ?_
      refine J_iload_n dX0_opposite_37 rfl ?_
      refine J_isub dX0_opposite_38 ?_
      exact J_ret (r := some (.int _)) dX0_opposite_39 ⟨rfl, _, rfl, rfl⟩ (⟨rN_of _, rfl⟩)
    · refine J_iload_n dX0_opposite_30 rfl ?_
      refine J_iload_n dX0_opposite_31 rfl ?_
      refine J_iadd dX0_opposite_32 ?_
      refine J_goto (tgt := 39) dX0_opposite_33 (by decide) ?_
      exact J_ret (r := some (.int _)) dX0_opposite_39 ⟨rfl, _, rfl, rfl⟩ (⟨rN_of _, rfl⟩)
  · refine J_iload_n dX0_opposite_5 rfl ?_
    refine J_iconst (v := 2) dX0_opposite_6 (by decide) ?_
    refine J_icmp_ne (tgt := 14) dX0_opposite_7 (by decide) (fun c7 => ?_) (fun c7 => ?_)
    · refine J_iconst (v := 1) dX0_opposite_14 (by decide) ?_
      refine J_iload_n dX0_opposite_15 rfl ?_
      refine J_isub dX0_opposite_16 ?_
      exact J_ret (r := some (.int _)) dX0_opposite_17 ⟨rfl, _, rfl, rfl⟩ (⟨rN_of _, rfl⟩)
    · refine J_iconst (v := 2) dX0_opposite_10 (by decide) ?_
      refine J_goto (tgt := 17) dX0_opposite_11 (by decide) ?_
      exact J_ret (r := some (.int _)) dX0_opposite_17 ⟨rfl, _, rfl, rfl⟩ (⟨rN_of _, rfl⟩)
set_option maxRecDepth 100000 in
set_option maxHeartbeats 4000000 in
theorem w_X0_turnedInCubes {tS : jTS} (d : Nat) (V0 : jH) (x0 : Int32) (x1 : Int32)  (hd : 0 ≤ d)    : jTot tS mX0_turnedInCubes d [.int x0, .int x1] V0 0 0 (fun r V => rN r V ∧ V = V0) := by
  refine jTot.of_J [some (.int x0), some (.int x1), none, none, none, none, none] moX0_turnedInCubes (Nat.le_of_ble_eq_true rfl) rfl ?_
  refine J_iload_n dX0_turnedInCubes_0 rfl ?_
  refine J_iconst (v := 3) dX0_turnedInCubes_1 (by decide) ?_
  have K12 : ∀  (t0 : Int32), J tS mX0_turnedInCubes d 12 [some (.int x0), some (.int x1), none, none, none, none, none] [.int t0] V0 0 0 (fun r V => rN r V ∧ V = V0) := by
    intro   t0  
    refine J_istore_n dX0_turnedInCubes_12 rfl (by decide) ?_
    refine J_iload_n dX0_turnedInCubes_13 rfl ?_
    refine J_iconst (v := 3) dX0_turnedInCubes_14 (by decide) ?_
    have K23 : ∀ (i2 : Int32) (t0 : Int32), J tS mX0_turnedInCubes d 23 [some (.int x0), some (.int x1), some (.int i2), none, none, none, none] [.int t0] V0 0 0 (fun r V => rN r V ∧ V = V0) := by
      intro  i2 t0  
      refine J_istore_n dX0_turnedInCubes_23 rfl (by decide) ?_
      refine J_iload_n dX0_turnedInCubes_24 rfl ?_
      refine J_bipush (v := 7) dX0_turnedInCubes_25 (by decide) ?_
      refine J_iand dX0_turnedInCubes_27 ?_
      refine J_iload_n dX0_turnedInCubes_28 rfl ?_
      refine J_ishr dX0_turnedInCubes_29 ?_
      refine J_iconst (v := 1) dX0_turnedInCubes_30 (by decide) ?_
      refine J_iand dX0_turnedInCubes_31 ?_
      refine J_iconst (v := 1) dX0_turnedInCubes_32 (by decide) ?_
      have K41 : ∀ (i2 : Int32) (i3 : Int32) (t0 : Int32), J tS mX0_turnedInCubes d 41 [some (.int x0), some (.int x1), some (.int i2), some (.int i3), none, none, none] [.int t0] V0 0 0 (fun r V => rN r V ∧ V = V0) := by
        intro  i2 i3 t0  
        refine J_istore dX0_turnedInCubes_41 rfl (by decide) ?_
        refine J_iconst (v := 3) dX0_turnedInCubes_43 (by decide) ?_
        refine J_iload_n dX0_turnedInCubes_44 rfl ?_
        refine J_iconst (v := 3) dX0_turnedInCubes_45 (by decide) ?_
        refine J_ishr dX0_turnedInCubes_46 ?_
        refine J_imul dX0_turnedInCubes_47 ?_
        refine J_iload_n dX0_turnedInCubes_48 rfl ?_
        refine J_iadd dX0_turnedInCubes_49 ?_
        refine J_istore dX0_turnedInCubes_50 rfl (by decide) ?_
        refine J_iload dX0_turnedInCubes_52 rfl ?_
        have K76 : ∀ (i2 : Int32) (i3 : Int32) (i4 : Int32) (i5 : Int32) (t0 : Int32), J tS mX0_turnedInCubes d 76 [some (.int x0), some (.int x1), some (.int i2), some (.int i3), some (.int i4), some (.int i5), none] [.int t0] V0 0 0 (fun r V => rN r V ∧ V = V0) := by
          intro  i2 i3 i4 i5 t0  
          refine J_istore dX0_turnedInCubes_76 rfl (by decide) ?_
          refine J_iload_n dX0_turnedInCubes_78 rfl ?_
          refine J_iload dX0_turnedInCubes_79 rfl ?_
          refine J_icmp_ne (tgt := 89) dX0_turnedInCubes_81 (by decide) (fun c81 => ?_) (fun c81 => ?_)
          · refine J_iload dX0_turnedInCubes_89 rfl ?_
            refine J_iconst (v := 3) dX0_turnedInCubes_91 (by decide) ?_
            refine J_iadd dX0_turnedInCubes_92 ?_
            exact J_ret (r := some (.int _)) dX0_turnedInCubes_93 ⟨rfl, _, rfl, rfl⟩ (⟨rN_of _, rfl⟩)
          · refine J_iload dX0_turnedInCubes_84 rfl ?_
            refine J_goto (tgt := 93) dX0_turnedInCubes_86 (by decide) ?_
            exact J_ret (r := some (.int _)) dX0_turnedInCubes_93 ⟨rfl, _, rfl, rfl⟩ (⟨rN_of _, rfl⟩)
        refine J_if_lt (tgt := 75) dX0_turnedInCubes_54 (by decide) (fun c54 => ?_) (fun c54 => ?_)
        · refine J_iload_n dX0_turnedInCubes_75 rfl ?_
          exact K76  _ _ _ _ _  
        · refine J_iload dX0_turnedInCubes_57 rfl ?_
          refine J_gets (k := 2) rfl jw_fl_X0_33 dX0_turnedInCubes_59 ?_
          refine J_tlen (k := 2) rfl dX0_turnedInCubes_62 rfl ?_
          refine J_icmp_ge (tgt := 75) dX0_turnedInCubes_63 (by decide) (fun c63 => ?_) (fun c63 => ?_)
          · refine J_iload_n dX0_turnedInCubes_75 rfl ?_
            exact K76  _ _ _ _ _  
          · refine J_gets (k := 2) rfl jw_fl_X0_33 dX0_turnedInCubes_66 ?_
            refine J_iload dX0_turnedInCubes_69 rfl ?_
            refine J_ti (k := 2) rfl rfl dX0_turnedInCubes_71 (by exact vp_in_g (by assumption) (by assumption) (by decide)) rfl ?_
            refine J_goto (tgt := 76) dX0_turnedInCubes_72 (by decide) ?_
            exact K76  _ _ _ _ _  
      refine J_icmp_ne (tgt := 40) dX0_turnedInCubes_33 (by decide) (fun c33 => ?_) (fun c33 => ?_)
      · refine J_iconst (v := 0) dX0_turnedInCubes_40 (by decide) ?_
        exact K41  _ _ _  
      · refine J_iconst (v := 1) dX0_turnedInCubes_36 (by decide) ?_
        refine J_goto (tgt := 41) dX0_turnedInCubes_37 (by decide) ?_
        exact K41  _ _ _  
    refine J_icmp_lt (tgt := 22) dX0_turnedInCubes_15 (by decide) (fun c15 => ?_) (fun c15 => ?_)
    · refine J_iconst (v := 0) dX0_turnedInCubes_22 (by decide) ?_
      exact K23  _ _  
    · refine J_iconst (v := 1) dX0_turnedInCubes_18 (by decide) ?_
      refine J_goto (tgt := 23) dX0_turnedInCubes_19 (by decide) ?_
      exact K23  _ _  
  refine J_icmp_ge (tgt := 9) dX0_turnedInCubes_2 (by decide) (fun c2 => ?_) (fun c2 => ?_)
  · refine J_iload_n dX0_turnedInCubes_9 rfl ?_
    refine J_iconst (v := 3) dX0_turnedInCubes_10 (by decide) ?_
    refine J_isub dX0_turnedInCubes_11 ?_
    exact K12  _  
  · refine J_iload_n dX0_turnedInCubes_5 rfl ?_
    refine J_goto (tgt := 12) dX0_turnedInCubes_6 (by decide) ?_
    exact K12  _  
set_option maxRecDepth 100000 in
set_option maxHeartbeats 4000000 in
theorem w_X0_turned {tS : jTS} (d : Nat) (V0 : jH) (x0 : Int32) (x1 : Int32) (x2 : Int32)  (hd : 1 ≤ d)    : jTot tS mX0_turned d [.int x0, .int x1, .int x2] V0 0 0 (fun r V => rN r V ∧ V = V0) := by
  refine jTot.of_J [some (.int x0), some (.int x1), some (.int x2), none, none] moX0_turned (Nat.le_of_ble_eq_true rfl) rfl ?_
  refine J_iload_n dX0_turned_0 rfl ?_
  refine J_iconst (v := 2) dX0_turned_1 (by decide) ?_
  refine J_icmp_ne (tgt := 7) dX0_turned_2 (by decide) (fun c2 => ?_) (fun c2 => ?_)
  · refine J_iload_n dX0_turned_7 rfl ?_
    refine J_iconst (v := 3) dX0_turned_8 (by decide) ?_
    refine J_icmp_ne (tgt := 18) dX0_turned_9 (by decide) (fun c9 => ?_) (fun c9 => ?_)
    · refine J_iload_n dX0_turned_18 rfl ?_
      refine J_callS1 moX0_directions jw_ml_X0_9 jw_st_X0_directions dX0_turned_19 (w_X0_directions (d - 1) _ _ (by omega)    ) (by omega) (Nat.zero_le _) (Nat.zero_le _) (Nat.le_of_ble_eq_true rfl) (fun r19 V19 h19 => ?_)
      obtain ⟨⟨y19, rfl, hl19, hh19⟩, hE19⟩ := h19
      have hE19 := hE19.symm
      subst hE19
      refine J_istore_n dX0_turned_22 rfl (by decide) ?_
      refine J_iload_n dX0_turned_23 rfl ?_
      refine J_iload_n dX0_turned_24 rfl ?_
      refine J_icmp_ge (tgt := 34) dX0_turned_25 (by decide) (fun c25 => ?_) (fun c25 => ?_)
      · refine J_iload_n dX0_turned_34 rfl ?_
        refine J_iload_n dX0_turned_35 rfl ?_
        refine J_isub dX0_turned_36 ?_
        refine J_istore dX0_turned_37 rfl (by decide) ?_
        refine J_iload dX0_turned_39 rfl ?_
        refine J_iload_n dX0_turned_41 rfl ?_
        refine J_icmp_lt (tgt := 52) dX0_turned_42 (by decide) (fun c42 => ?_) (fun c42 => ?_)
        · refine J_iload dX0_turned_52 rfl ?_
          exact J_ret (r := some (.int _)) dX0_turned_54 ⟨rfl, _, rfl, rfl⟩ (⟨rN_of _, rfl⟩)
        · refine J_iload dX0_turned_45 rfl ?_
          refine J_iload_n dX0_turned_47 rfl ?_
          refine J_isub dX0_turned_48 ?_
          refine J_goto (tgt := 54) dX0_turned_49 (by decide) ?_
          exact J_ret (r := some (.int _)) dX0_turned_54 ⟨rfl, _, rfl, rfl⟩ (⟨rN_of _, rfl⟩)
      · refine J_iload_n dX0_turned_28 rfl ?_
        refine J_iload_n dX0_turned_29 rfl ?_
        refine J_iadd dX0_turned_30 ?_
        refine J_goto (tgt := 37) dX0_turned_31 (by decide) ?_
        refine J_istore dX0_turned_37 rfl (by decide) ?_
        refine J_iload dX0_turned_39 rfl ?_
        refine J_iload_n dX0_turned_41 rfl ?_
        refine J_icmp_lt (tgt := 52) dX0_turned_42 (by decide) (fun c42 => ?_) (fun c42 => ?_)
        · refine J_iload dX0_turned_52 rfl ?_
          exact J_ret (r := some (.int _)) dX0_turned_54 ⟨rfl, _, rfl, rfl⟩ (⟨rN_of _, rfl⟩)
        · refine J_iload dX0_turned_45 rfl ?_
          refine J_iload_n dX0_turned_47 rfl ?_
          refine J_isub dX0_turned_48 ?_
          refine J_goto (tgt := 54) dX0_turned_49 (by decide) ?_
          exact J_ret (r := some (.int _)) dX0_turned_54 ⟨rfl, _, rfl, rfl⟩ (⟨rN_of _, rfl⟩)
    · refine J_iload_n dX0_turned_12 rfl ?_
      refine J_iload_n dX0_turned_13 rfl ?_
      refine J_callS2 moX0_turnedInCubes jw_ml_X0_29 jw_st_X0_turnedInCubes dX0_turned_14 (w_X0_turnedInCubes (d - 1) _ _ _ (by omega)    ) (by omega) (Nat.zero_le _) (Nat.zero_le _) (Nat.le_of_ble_eq_true rfl) (fun r14 V14 h14 => ?_)
      obtain ⟨⟨y14, rfl, hl14, hh14⟩, hE14⟩ := h14
      have hE14 := hE14.symm
      subst hE14
      exact J_ret (r := some (.int _)) dX0_turned_17 ⟨rfl, _, rfl, rfl⟩ (⟨rN_of _, rfl⟩)
  · refine J_iload_n dX0_turned_5 rfl ?_
    exact J_ret (r := some (.int _)) dX0_turned_6 ⟨rfl, _, rfl, rfl⟩ (⟨rN_of _, rfl⟩)
set_option maxRecDepth 100000 in
set_option maxHeartbeats 4000000 in
theorem w_X0_isBesideBeginning {tS : jTS} (d : Nat) (V0 : jH) (x0 : Int32) (x1 : Int32) (x2 : Int32) (x3 : Int32)  (hd : 1 ≤ d)    : jTot tS mX0_isBesideBeginning d [.int x0, .int x1, .int x2, .int x3] V0 0 0 (fun r V => rN r V ∧ V = V0) := by
  refine jTot.of_J [some (.int x0), some (.int x1), some (.int x2), some (.int x3)] moX0_isBesideBeginning (Nat.le_of_ble_eq_true rfl) rfl ?_
  refine J_iload_n dX0_isBesideBeginning_0 rfl ?_
  refine J_iload_n dX0_isBesideBeginning_1 rfl ?_
  refine J_iload_n dX0_isBesideBeginning_2 rfl ?_
  refine J_iload_n dX0_isBesideBeginning_3 rfl ?_
  refine J_callS4 moX0_square jw_ml_X0_36 jw_st_X0_square dX0_isBesideBeginning_4 (w_X0_square (d - 1) _ _ _ _ _ (by omega)    ) (by omega) (Nat.zero_le _) (Nat.zero_le _) (Nat.le_of_ble_eq_true rfl) (fun r4 V4 h4 => ?_)
  obtain ⟨⟨y4, rfl, hl4, hh4⟩, hE4⟩ := h4
  have hE4 := hE4.symm
  subst hE4
  refine J_iconst (v := 1) dX0_isBesideBeginning_7 (by decide) ?_
  refine J_icmp_ne (tgt := 24) dX0_isBesideBeginning_8 (by decide) (fun c8 => ?_) (fun c8 => ?_)
  · refine J_iconst (v := 0) dX0_isBesideBeginning_24 (by decide) ?_
    exact J_ret (r := some (.int _)) dX0_isBesideBeginning_25 ⟨rfl, _, rfl, (by first | rfl | exact nar_b (by assumption) (by assumption))⟩ (⟨rN_of _, rfl⟩)
  · refine J_iload_n dX0_isBesideBeginning_11 rfl ?_
    refine J_iconst (v := 2) dX0_isBesideBeginning_12 (by decide) ?_
    refine J_icmp_ne (tgt := 20) dX0_isBesideBeginning_13 (by decide) (fun c13 => ?_) (fun c13 => ?_)
    · refine J_iconst (v := 1) dX0_isBesideBeginning_20 (by decide) ?_
      refine J_goto (tgt := 25) dX0_isBesideBeginning_21 (by decide) ?_
      exact J_ret (r := some (.int _)) dX0_isBesideBeginning_25 ⟨rfl, _, rfl, (by first | rfl | exact nar_b (by assumption) (by assumption))⟩ (⟨rN_of _, rfl⟩)
    · refine J_iload_n dX0_isBesideBeginning_16 rfl ?_
      refine J_if_lt (tgt := 24) dX0_isBesideBeginning_17 (by decide) (fun c17 => ?_) (fun c17 => ?_)
      · refine J_iconst (v := 0) dX0_isBesideBeginning_24 (by decide) ?_
        exact J_ret (r := some (.int _)) dX0_isBesideBeginning_25 ⟨rfl, _, rfl, (by first | rfl | exact nar_b (by assumption) (by assumption))⟩ (⟨rN_of _, rfl⟩)
      · refine J_iconst (v := 1) dX0_isBesideBeginning_20 (by decide) ?_
        refine J_goto (tgt := 25) dX0_isBesideBeginning_21 (by decide) ?_
        exact J_ret (r := some (.int _)) dX0_isBesideBeginning_25 ⟨rfl, _, rfl, (by first | rfl | exact nar_b (by assumption) (by assumption))⟩ (⟨rN_of _, rfl⟩)
set_option maxRecDepth 100000 in
set_option maxHeartbeats 4000000 in
theorem w_J13_bitCount_95d88 {tS : jTS} (d : Nat) (V0 : jH) (x0 : Int64)  (hd : 0 ≤ d)    : jTot tS mJ13_bitCount_95d88 d [.long x0] V0 0 0 (fun r V => rN r V ∧ V = V0) := by
  refine jTot.of_J [some (.long x0), none] moJ13_bitCount_95d88 (Nat.le_of_ble_eq_true rfl) rfl ?_
  refine J_lload_n dJ13_bitCount_95d88_0 rfl ?_
  refine J_lload_n dJ13_bitCount_95d88_1 rfl ?_
  refine J_iconst (v := 1) dJ13_bitCount_95d88_2 (by decide) ?_
  refine J_lushr dJ13_bitCount_95d88_3 rfl ?_
  refine J_ldc2 jw_k_J13_314 dJ13_bitCount_95d88_4 ?_
  refine J_land dJ13_bitCount_95d88_7 ?_
  refine J_lsub dJ13_bitCount_95d88_8 ?_
  refine J_lstore_n dJ13_bitCount_95d88_9 rfl (by decide) ?_
  refine J_lload_n dJ13_bitCount_95d88_10 rfl ?_
  refine J_ldc2 jw_k_J13_316 dJ13_bitCount_95d88_11 ?_
  refine J_land dJ13_bitCount_95d88_14 ?_
  refine J_lload_n dJ13_bitCount_95d88_15 rfl ?_
  refine J_iconst (v := 2) dJ13_bitCount_95d88_16 (by decide) ?_
  refine J_lushr dJ13_bitCount_95d88_17 rfl ?_
  refine J_ldc2 jw_k_J13_316 dJ13_bitCount_95d88_18 ?_
  refine J_land dJ13_bitCount_95d88_21 ?_
  refine J_ladd dJ13_bitCount_95d88_22 ?_
  refine J_lstore_n dJ13_bitCount_95d88_23 rfl (by decide) ?_
  refine J_lload_n dJ13_bitCount_95d88_24 rfl ?_
  refine J_lload_n dJ13_bitCount_95d88_25 rfl ?_
  refine J_iconst (v := 4) dJ13_bitCount_95d88_26 (by decide) ?_
  refine J_lushr dJ13_bitCount_95d88_27 rfl ?_
  refine J_ladd dJ13_bitCount_95d88_28 ?_
  refine J_ldc2 jw_k_J13_318 dJ13_bitCount_95d88_29 ?_
  refine J_land dJ13_bitCount_95d88_32 ?_
  refine J_lstore_n dJ13_bitCount_95d88_33 rfl (by decide) ?_
  refine J_lload_n dJ13_bitCount_95d88_34 rfl ?_
  refine J_lload_n dJ13_bitCount_95d88_35 rfl ?_
  refine J_bipush (v := 8) dJ13_bitCount_95d88_36 (by decide) ?_
  refine J_lushr dJ13_bitCount_95d88_38 rfl ?_
  refine J_ladd dJ13_bitCount_95d88_39 ?_
  refine J_lstore_n dJ13_bitCount_95d88_40 rfl (by decide) ?_
  refine J_lload_n dJ13_bitCount_95d88_41 rfl ?_
  refine J_lload_n dJ13_bitCount_95d88_42 rfl ?_
  refine J_bipush (v := 16) dJ13_bitCount_95d88_43 (by decide) ?_
  refine J_lushr dJ13_bitCount_95d88_45 rfl ?_
  refine J_ladd dJ13_bitCount_95d88_46 ?_
  refine J_lstore_n dJ13_bitCount_95d88_47 rfl (by decide) ?_
  refine J_lload_n dJ13_bitCount_95d88_48 rfl ?_
  refine J_lload_n dJ13_bitCount_95d88_49 rfl ?_
  refine J_bipush (v := 32) dJ13_bitCount_95d88_50 (by decide) ?_
  refine J_lushr dJ13_bitCount_95d88_52 rfl ?_
  refine J_ladd dJ13_bitCount_95d88_53 ?_
  refine J_lstore_n dJ13_bitCount_95d88_54 rfl (by decide) ?_
  refine J_lload_n dJ13_bitCount_95d88_55 rfl ?_
  refine J_l2i dJ13_bitCount_95d88_56 rfl ?_
  refine J_bipush (v := 127) dJ13_bitCount_95d88_57 (by decide) ?_
  refine J_iand dJ13_bitCount_95d88_59 ?_
  exact J_ret (r := some (.int _)) dJ13_bitCount_95d88_60 ⟨rfl, _, rfl, rfl⟩ (⟨rN_of _, rfl⟩)
