set_option maxRecDepth 100000 in
set_option maxHeartbeats 4000000 in
theorem w_X0_directions {tS : jTS} (d : Nat) (V0 : jH) (x0 : Int32)  (hd : 0 ≤ d)    : jTot tS mX0_directions d [.int x0] V0 0 0 (fun r V => rN r V ∧ V = V0) := by
  refine jTot.of_J [some (.int x0)] moX0_directions (Nat.le_of_ble_eq_true rfl) rfl ?_
  refine J_iload_n dX0_directions_0 rfl ?_
  refine J_if_ne (tgt := 8) dX0_directions_1 (by decide) (fun c1 => ?_) (fun c1 => ?_)
  · refine J_iload_n dX0_directions_8 rfl ?_
    refine J_iconst (v := 2) dX0_directions_9 (by decide) ?_
    refine J_icmp_ne (tgt := 17) dX0_directions_10 (by decide) (fun c10 => ?_) (fun c10 => ?_)
    · refine J_bipush (v := 6) dX0_directions_17 (by decide) ?_
      exact J_ret (r := some (.int _)) dX0_directions_19 ⟨rfl, _, rfl, rfl⟩ (⟨rN_of _, rfl⟩)
    · refine J_iconst (v := 3) dX0_directions_13 (by decide) ?_
      refine J_goto (tgt := 19) dX0_directions_14 (by decide) ?_
      exact J_ret (r := some (.int _)) dX0_directions_19 ⟨rfl, _, rfl, rfl⟩ (⟨rN_of _, rfl⟩)
  · refine J_iconst (v := 4) dX0_directions_4 (by decide) ?_
    refine J_goto (tgt := 19) dX0_directions_5 (by decide) ?_
    exact J_ret (r := some (.int _)) dX0_directions_19 ⟨rfl, _, rfl, rfl⟩ (⟨rN_of _, rfl⟩)
set_option maxRecDepth 100000 in
set_option maxHeartbeats 4000000 in
theorem w_X0_turns {tS : jTS} (d : Nat) (V0 : jH) (x0 : Int32)  (hd : 0 ≤ d)    : jTot tS mX0_turns d [.int x0] V0 0 0 (fun r V => rN r V ∧ V = V0) := by
  refine jTot.of_J [some (.int x0)] moX0_turns (Nat.le_of_ble_eq_true rfl) rfl ?_
  refine J_iload_n dX0_turns_0 rfl ?_
  rcases jsw3 x0 with hx1 | hx1 | hx1 | hx1 | hx1
  · rw [hx1]
    refine J_tableIn (tgt := 32) dX0_turns_1 (by decide) (by decide) rfl (by decide) ?_
    refine J_bipush (v := 8) dX0_turns_32 (by decide) ?_
    exact J_ret (r := some (.int _)) dX0_turns_34 ⟨rfl, _, rfl, rfl⟩ (⟨rN_of _, rfl⟩)
  · rw [hx1]
    refine J_tableIn (tgt := 35) dX0_turns_1 (by decide) (by decide) rfl (by decide) ?_
    refine J_bipush (v := 12) dX0_turns_35 (by decide) ?_
    exact J_ret (r := some (.int _)) dX0_turns_37 ⟨rfl, _, rfl, rfl⟩ (⟨rN_of _, rfl⟩)
  · rw [hx1]
    refine J_tableIn (tgt := 41) dX0_turns_1 (by decide) (by decide) rfl (by decide) ?_
    refine J_iconst (v := 0) dX0_turns_41 (by decide) ?_
    exact J_ret (r := some (.int _)) dX0_turns_42 ⟨rfl, _, rfl, rfl⟩ (⟨rN_of _, rfl⟩)
  · rw [hx1]
    refine J_tableIn (tgt := 38) dX0_turns_1 (by decide) (by decide) rfl (by decide) ?_
    refine J_bipush (v := 48) dX0_turns_38 (by decide) ?_
    exact J_ret (r := some (.int _)) dX0_turns_40 ⟨rfl, _, rfl, rfl⟩ (⟨rN_of _, rfl⟩)
  · refine J_tableOut (tgt := 41) dX0_turns_1 hx1 (by decide) ?_
    refine J_iconst (v := 0) dX0_turns_41 (by decide) ?_
    exact J_ret (r := some (.int _)) dX0_turns_42 ⟨rfl, _, rfl, rfl⟩ (⟨rN_of _, rfl⟩)
set_option maxRecDepth 100000 in
set_option maxHeartbeats 4000000 in
theorem w_X0_opposite {tS : jTS} (d : Nat) (V0 : jH) (x0 : Int32) (x1 : Int32)  (hd : 1 ≤ d)    : jTot tS mX0_opposite d [.int x0, .int x1] V0 0 0 (fun r V => rN r V ∧ V = V0) := by
  refine jTot.of_J [some (.int x0), some (.int x1), none] moX0_opposite (Nat.le_of_ble_eq_true rfl) rfl ?_
  refine J_iload_n dX0_opposite_0 rfl ?_
  refine J_iconst (v := 2) dX0_opposite_1 (by decide) ?_
  refine J_icmp_ne (tgt := 18) dX0_opposite_2 (by decide) (fun c2 => ?_) (fun c2 => ?_)
  · refine J_iload_n dX0_opposite_18 rfl ?_
    refine J_callS1 moX0_directions jw_ml_X0_9 jw_st_X0_directions dX0_opposite_19 (w_X0_directions (d - 1) _ _ (by omega)    ) (by omega) (Nat.zero_le _) (Nat.zero_le _) (Nat.le_of_ble_eq_true rfl) (fun r19 V19 h19 => ?_)
    obtain ⟨⟨y19, rfl, hl19, hh19⟩, hE19⟩ := h19
    have hE19 := hE19.symm
    subst hE19
    refine J_iconst (v := 2) dX0_opposite_22 (by decide) ?_
    refine J_idiv dX0_opposite_23 (by decide) ?_
    refine J_istore_n dX0_opposite_24 rfl (by decide) ?_
    refine J_iload_n dX0_opposite_25 rfl ?_
    refine J_iload_n dX0_opposite_26 rfl ?_
    refine J_icmp_ge (tgt := 36) dX0_opposite_27 (by decide) (fun c27 => ?_) (fun c27 => ?_)
    · refine J_iload_n dX0_opposite_36 rfl ?_
      refine J_iload_n dX0_opposite_37 rfl ?_
      refine J_isub dX0_opposite_38 ?_
      exact J_ret (r := some (.int _)) dX0_opposite_39 ⟨rfl, _, rfl, rfl⟩ (⟨rN_of _, rfl⟩)
    · refine J_iload_n dX0_opposite_30 rfl ?_
      refine J_iload_n dX0_opposite_31 rfl ?_
      refine J_iadd dX0_opposite_32 ?_
      refine J_goto (tgt := 39) dX0_opposite_33 (by decide) ?_
      exact J_ret (r := some (.int _)) dX0_opposite_39 ⟨rfl, _, rfl, rfl⟩ (⟨rN_of _, rfl⟩)
  · refine J_iload_n dX0_opposite_5 rfl ?_
    refine J_iconst (v := 2) dX0_opposite_6 (by decide) ?_
    refine J_icmp_ne (tgt := 14) dX0_opposite_7 (by decide) (fun c7 => ?_) (fun c7 => ?_)
    · refine J_iconst (v := 1) dX0_opposite_14 (by decide) ?_
      refine J_iload_n dX0_opposite_15 rfl ?_
      refine J_isub dX0_opposite_16 ?_
      exact J_ret (r := some (.int _)) dX0_opposite_17 ⟨rfl, _, rfl, rfl⟩ (⟨rN_of _, rfl⟩)
    · refine J_iconst (v := 2) dX0_opposite_10 (by decide) ?_
      refine J_goto (tgt := 17) dX0_opposite_11 (by decide) ?_
      exact J_ret (r := some (.int _)) dX0_opposite_17 ⟨rfl, _, rfl, rfl⟩ (⟨rN_of _, rfl⟩)
set_option maxRecDepth 100000 in
set_option maxHeartbeats 4000000 in
theorem w_X0_turnedInCubes {tS : jTS} (d : Nat) (V0 : jH) (x0 : Int32) (x1 : Int32)  (hd : 0 ≤ d)    : jTot tS mX0_turnedInCubes d [.int x0, .int x1] V0 0 0 (fun r V => rN r V ∧ V = V0) := by
  refine jTot.of_J [some (.int x0), some (.int x1), none, none, none, none, none] moX0_turnedInCubes (Nat.le_of_ble_eq_true rfl) rfl ?_
  refine J_iload_n dX0_turnedInCubes_0 rfl ?_
  refine J_iconst (v := 3) dX0_turnedInCubes_1 (by decide) ?_
  have K12 : ∀  (t0 : Int32), J tS mX0_turnedInCubes d 12 [some (.int x0), some (.int x1), none, none, none, none, none] [.int t0] V0 0 0 (fun r V => rN r V ∧ V = V0) := by
    intro   t0  
    refine J_istore_n dX0_turnedInCubes_12 rfl (by decide) ?_
    refine J_iload_n dX0_turnedInCubes_13 rfl ?_
    refine J_iconst (v := 3) dX0_turnedInCubes_14 (by decide) ?_
    have K23 : ∀ (i2 : Int32) (t0 : Int32), J tS mX0_turnedInCubes d 23 [some (.int x0), some (.int x1), some (.int i2), none, none, none, none] [.int t0] V0 0 0 (fun r V => rN r V ∧ V = V0) := by
      intro  i2 t0  
      refine J_istore_n dX0_turnedInCubes_23 rfl (by decide) ?_
      refine J_iload_n dX0_turnedInCubes_24 rfl ?_
      refine J_bipush (v := 7) dX0_turnedInCubes_25 (by decide) ?_
      refine J_iand dX0_turnedInCubes_27 ?_
      refine J_iload_n dX0_turnedInCubes_28 rfl ?_
      refine J_ishr dX0_turnedInCubes_29 ?_
      refine J_iconst (v := 1) dX0_turnedInCubes_30 (by decide) ?_
      refine J_iand dX0_turnedInCubes_31 ?_
      refine J_iconst (v := 1) dX0_turnedInCubes_32 (by decide) ?_
      have K41 : ∀ (i2 : Int32) (i3 : Int32) (t0 : Int32), J tS mX0_turnedInCubes d 41 [some (.int x0), some (.int x1), some (.int i2), some (.int i3), none, none, none] [.int t0] V0 0 0 (fun r V => rN r V ∧ V = V0) := by
        intro  i2 i3 t0  
        refine J_istore dX0_turnedInCubes_41 rfl (by decide) ?_
        refine J_iconst (v := 3) dX0_turnedInCubes_43 (by decide) ?_
        refine J_iload_n dX0_turnedInCubes_44 rfl ?_
        refine J_iconst (v := 3) dX0_turnedInCubes_45 (by decide) ?_
        refine J_ishr dX0_turnedInCubes_46 ?_
        refine J_imul dX0_turnedInCubes_47 ?_
        refine J_iload_n dX0_turnedInCubes_48 rfl ?_
        refine J_iadd dX0_turnedInCubes_49 ?_
        refine J_istore dX0_turnedInCubes_50 rfl (by decide) ?_
        refine J_iload dX0_turnedInCubes_52 rfl ?_
        have K76 : ∀ (i2 : Int32) (i3 : Int32) (i4 : Int32) (i5 : Int32) (t0 : Int32), J tS mX0_turnedInCubes d 76 [some (.int x0), some (.int x1), some (.int i2), some (.int i3), some (.int i4), some (.int i5), none] [.int t0] V0 0 0 (fun r V => rN r V ∧ V = V0) := by
          intro  i2 i3 i4 i5 t0  
          refine J_istore dX0_turnedInCubes_76 rfl (by decide) ?_
          refine J_iload_n dX0_turnedInCubes_78 rfl ?_
          refine J_iload dX0_turnedInCubes_79 rfl ?_
          refine J_icmp_ne (tgt := 89) dX0_turnedInCubes_81 (by decide) (fun c81 => ?_) (fun c81 => ?_)
          · refine J_iload dX0_turnedInCubes_89 rfl ?_
            refine J_iconst (v := 3) dX0_turnedInCubes_91 (by decide) ?_
            refine J_iadd dX0_turnedInCubes_92 ?_
            exact J_ret (r := some (.int _)) dX0_turnedInCubes_93 ⟨rfl, _, rfl, rfl⟩ (⟨rN_of _, rfl⟩)
          · refine J_iload dX0_turnedInCubes_84 rfl ?_
            refine J_goto (tgt := 93) dX0_turnedInCubes_86 (by decide) ?_
            exact J_ret (r := some (.int _)) dX0_turnedInCubes_93 ⟨rfl, _, rfl, rfl⟩ (⟨rN_of _, rfl⟩)
        refine J_if_lt (tgt := 75) dX0_turnedInCubes_54 (by decide) (fun c54 => ?_) (fun c54 => ?_)
        · refine J_iload_n dX0_turnedInCubes_75 rfl ?_
          exact K76  _ _ _ _ _  
        · refine J_iload dX0_turnedInCubes_57 rfl ?_
          refine J_gets (k := 2) rfl jw_fl_X0_33 dX0_turnedInCubes_59 ?_
          refine J_tlen (k := 2) rfl dX0_turnedInCubes_62 rfl ?_
          refine J_icmp_ge (tgt := 75) dX0_turnedInCubes_63 (by decide) (fun c63 => ?_) (fun c63 => ?_)
          · refine J_iload_n dX0_turnedInCubes_75 rfl ?_
            exact K76  _ _ _ _ _  
          · refine J_gets (k := 2) rfl jw_fl_X0_33 dX0_turnedInCubes_66 ?_
            refine J_iload dX0_turnedInCubes_69 rfl ?_
            refine J_ti (k := 2) rfl rfl dX0_turnedInCubes_71 (by exact vp_in_g (by assumption) (by assumption) (by decide)) rfl ?_
            refine J_goto (tgt := 76) dX0_turnedInCubes_72 (by decide) ?_
            exact K76  _ _ _ _ _  
      refine J_icmp_ne (tgt := 40) dX0_turnedInCubes_33 (by decide) (fun c33 => ?_) (fun c33 => ?_)
      · refine J_iconst (v := 0) dX0_turnedInCubes_40 (by decide) ?_
        exact K41  _ _ _  
      · refine J_iconst (v := 1) dX0_turnedInCubes_36 (by decide) ?_
        refine J_goto (tgt := 41) dX0_turnedInCubes_37 (by decide) ?_
        exact K41  _ _ _  
    refine J_icmp_lt (tgt := 22) dX0_turnedInCubes_15 (by decide) (fun c15 => ?_) (fun c15 => ?_)
    · refine J_iconst (v := 0) dX0_turnedInCubes_22 (by decide) ?_
      exact K23  _ _  
    · refine J_iconst (v := 1) dX0_turnedInCubes_18 (by decide) ?_
      refine J_goto (tgt := 23) dX0_turnedInCubes_19 (by decide) ?_
      exact K23  _ _  
  refine J_icmp_ge (tgt := 9) dX0_turnedInCubes_2 (by decide) (fun c2 => ?_) (fun c2 => ?_)
  · refine J_iload_n dX0_turnedInCubes_9 rfl ?_
    refine J_iconst (v := 3) dX0_turnedInCubes_10 (by decide) ?_
    refine J_isub dX0_turnedInCubes_11 ?_
    exact K12  _  
  · refine J_iload_n dX0_turnedInCubes_5 rfl ?_
    refine J_goto (tgt := 12) dX0_turnedInCubes_6 (by decide) ?_
    exact K12  _  
set_option maxRecDepth 100000 in
set_option maxHeartbeats 4000000 in
theorem w_X0_turned {tS : jTS} (d : Nat) (V0 : jH) (x0 : Int32) (x1 : Int32) (x2 : Int32)  (hd : 1 ≤ d)    : jTot tS mX0_turned d [.int x0, .int x1, .int x2] V0 0 0 (fun r V => rN r V ∧ V = V0) := by
  refine jTot.of_J [some (.int x0), some (.int x1), some (.int x2), none, none] moX0_turned (Nat.le_of_ble_eq_true rfl) rfl ?_
  refine J_iload_n dX0_turned_0 rfl ?_
  refine J_iconst (v := 2) dX0_turned_1 (by decide) ?_
  refine J_icmp_ne (tgt := 7) dX0_turned_2 (by decide) (fun c2 => ?_) (fun c2 => ?_)
  · refine J_iload_n dX0_turned_7 rfl ?_
    refine J_iconst (v := 3) dX0_turned_8 (by decide) ?_
    refine J_icmp_ne (tgt := 18) dX0_turned_9 (by decide) (fun c9 => ?_) (fun c9 => ?_)
    · refine J_iload_n dX0_turned_18 rfl ?_
      refine J_callS1 moX0_directions jw_ml_X0_9 jw_st_X0_directions dX0_turned_19 (w_X0_directions (d - 1) _ _ (by omega)    ) (by omega) (Nat.zero_le _) (Nat.zero_le _) (Nat.le_of_ble_eq_true rfl) (fun r19 V19 h19 => ?_)
      obtain ⟨⟨y19, rfl, hl19, hh19⟩, hE19⟩ := h19
      have hE19 := hE19.symm
      subst hE19
      refine J_istore_n dX0_turned_22 rfl (by decide) ?_
      refine J_iload_n dX0_turned_23 rfl ?_
      refine J_iload_n dX0_turned_24 rfl ?_
      refine J_icmp_ge (tgt := 34) dX0_turned_25 (by decide) (fun c25 => ?_) (fun c25 => ?_)
      · refine J_iload_n dX0_turned_34 rfl ?_
        refine J_iload_n dX0_turned_35 rfl ?_
        refine J_isub dX0_turned_36 ?_
        refine J_istore dX0_turned_37 rfl (by decide) ?_
        refine J_iload dX0_turned_39 rfl ?_
        refine J_iload_n dX0_turned_41 rfl ?_
        refine J_icmp_lt (tgt := 52) dX0_turned_42 (by decide) (fun c42 => ?_) (fun c42 => ?_)
        · refine J_iload dX0_turned_52 rfl ?_
          exact J_ret (r := some (.int _)) dX0_turned_54 ⟨rfl, _, rfl, rfl⟩ (⟨rN_of _, rfl⟩)
        · refine J_iload dX0_turned_45 rfl ?_
          refine J_iload_n dX0_turned_47 rfl ?_
          refine J_isub dX0_turned_48 ?_
          refine J_goto (tgt := 54) dX0_turned_49 (by decide) ?_
          exact J_ret (r := some (.int _)) dX0_turned_54 ⟨rfl, _, rfl, rfl⟩ (⟨rN_of _, rfl⟩)
      · refine J_iload_n dX0_turned_28 rfl ?_
        refine J_iload_n dX0_turned_29 rfl ?_
        refine J_iadd dX0_turned_30 ?_
        refine J_goto (tgt := 37) dX0_turned_31 (by decide) ?_
        refine J_istore dX0_turned_37 rfl (by decide) ?_
        refine J_iload dX0_turned_39 rfl ?_
        refine J_iload_n dX0_turned_41 rfl ?_
        refine J_icmp_lt (tgt := 52) dX0_turned_42 (by decide) (fun c42 => ?_) (fun c42 => ?_)
        · refine J_iload dX0_turned_52 rfl ?_
          exact J_ret (r := some (.int _)) dX0_turned_54 ⟨rfl, _, rfl, rfl⟩ (⟨rN_of _, rfl⟩)
        · refine J_iload dX0_turned_45 rfl ?_
          refine J_iload_n dX0_turned_47 rfl ?_
          refine J_isub dX0_turned_48 ?_
          refine J_goto (tgt := 54) dX0_turned_49 (by decide) ?_
          exact J_ret (r := some (.int _)) dX0_turned_54 ⟨rfl, _, rfl, rfl⟩ (⟨rN_of _, rfl⟩)
    · refine J_iload_n dX0_turned_12 rfl ?_
      refine J_iload_n dX0_turned_13 rfl ?_
      refine J_callS2 moX0_turnedInCubes jw_ml_X0_29 jw_st_X0_turnedInCubes dX0_turned_14 (w_X0_turnedInCubes (d - 1) _ _ _ (by omega)    ) (by omega) (Nat.zero_le _) (Nat.zero_le _) (Nat.le_of_ble_eq_true rfl) (fun r14 V14 h14 => ?_)
      obtain ⟨⟨y14, rfl, hl14, hh14⟩, hE14⟩ := h14
      have hE14 := hE14.symm
      subst hE14
      exact J_ret (r := some (.int _)) dX0_turned_17 ⟨rfl, _, rfl, rfl⟩ (⟨rN_of _, rfl⟩)
  · refine J_iload_n dX0_turned_5 rfl ?_
    exact J_ret (r := some (.int _)) dX0_turned_6 ⟨rfl, _, rfl, rfl⟩ (⟨rN_of _, rfl⟩)
