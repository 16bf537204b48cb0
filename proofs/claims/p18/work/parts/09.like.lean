set_option maxRecDepth 100000 in
set_option maxHeartbeats 4000000 in
theorem w_X1_turnedStep {tS : jTS} (d : Nat) (V0 : jH) (a0 : Nat) (x1 : Int32) (x2 : Int32) (x3 : Int32)  (hd : 2 ≤ d) (hW : WT V0) (ha0 : jis V0 (.inr 1) a0)  : jTot tS mX1_turnedStep d [.ref a0, .int x1, .int x2, .int x3] V0 0 0 (fun r V => rN r V ∧ V = V0) := by
  refine jTot.of_J [some (.ref a0), some (.int x1), some (.int x2), some (.int x3), none] moX1_turnedStep (Nat.le_of_ble_eq_true rfl) rfl ?_
  have he : jeff [] V0 V0 := jeff.refl _ _
  refine J_iload_n dX1_turnedStep_0 rfl ?_
  refine J_if_eq (tgt := 26) dX1_turnedStep_1 (by decide) (fun c1 => ?_) (fun c1 => ?_)
  · refine J_aload_n dX1_turnedStep_26 rfl ?_
    refine J_iload_n dX1_turnedStep_27 rfl ?_
    refine Jw_callV1 (q9 := (RX3, TX3, 7)) moX3_direction jw_ml_X1_15 jw_im_X3_direction jw_se_X3_direction ha0 rfl rfl dX1_turnedStep_28 (w_X3_direction (d - 1) _ _ _ (by omega) hW  ha0 ) (by omega) (Nat.zero_le _) (Nat.zero_le _) (Nat.le_of_ble_eq_true rfl) (fun r28 V28 h28 => ?_)
    obtain ⟨⟨y28, rfl, hl28, hh28⟩, hE28⟩ := h28
    have hE28 := hE28.symm
    subst hE28
    refine J_istore dX1_turnedStep_31 rfl (by decide) ?_
    refine J_aload_n dX1_turnedStep_33 rfl ?_
    obtain ⟨fs34, hO34, hK34⟩ := WT_obj hW id ha0
    obtain ⟨w34, hF34, y34, rfl, hl34, hh34⟩ := hK34.2 5 (.inl ((-2147483648), 2147483647)) rfl
    dsimp only at hl34 hh34
    refine J_get jf_X1_23 dX1_turnedStep_34 hO34 hF34 ?_
    refine J_iload_n dX1_turnedStep_37 rfl ?_
    refine J_iload dX1_turnedStep_38 rfl ?_
    refine J_callS3 moX0_turned jw_ml_X1_49 jw_st_X0_turned dX1_turnedStep_40 (w_X0_turned (d - 1) _ _ _ _ (by omega)    ) (by omega) (Nat.zero_le _) (Nat.zero_le _) (Nat.le_of_ble_eq_true rfl) (fun r40 V40 h40 => ?_)
    obtain ⟨⟨y40, rfl, hl40, hh40⟩, hE40⟩ := h40
    have hE40 := hE40.symm
    subst hE40
    exact J_ret (r := some (.int _)) dX1_turnedStep_43 ⟨rfl, _, rfl, rfl⟩ (⟨rN_of _, rfl⟩)
  · refine J_aload_n dX1_turnedStep_4 rfl ?_
    obtain ⟨fs5, hO5, hK5⟩ := WT_obj hW id ha0
    obtain ⟨w5, hF5, y5, rfl, hl5, hh5⟩ := hK5.2 5 (.inl ((-2147483648), 2147483647)) rfl
    dsimp only at hl5 hh5
    refine J_get jf_X1_23 dX1_turnedStep_5 hO5 hF5 ?_
    refine J_aload_n dX1_turnedStep_8 rfl ?_
    refine J_aload_n dX1_turnedStep_9 rfl ?_
    obtain ⟨w10, hF10, y10, rfl, hl10, hh10⟩ := hK5.2 6 (.inl (0, 120)) rfl
    dsimp only at hl10 hh10
    refine J_get jf_X1_9 dX1_turnedStep_10 hO5 hF10 ?_
    refine J_iconst (v := 1) dX1_turnedStep_13 (by decide) ?_
    refine J_isub dX1_turnedStep_14 ?_
    refine J_iload_n dX1_turnedStep_15 rfl ?_
    refine J_isub dX1_turnedStep_16 ?_
    refine Jw_callV1 (q9 := (RX3, TX3, 7)) moX3_direction jw_ml_X1_15 jw_im_X3_direction jw_se_X3_direction ha0 rfl rfl dX1_turnedStep_17 (w_X3_direction (d - 1) _ _ _ (by omega) hW  ha0 ) (by omega) (Nat.zero_le _) (Nat.zero_le _) (Nat.le_of_ble_eq_true rfl) (fun r17 V17 h17 => ?_)
    obtain ⟨⟨y17, rfl, hl17, hh17⟩, hE17⟩ := h17
    have hE17 := hE17.symm
    subst hE17
    refine J_callS2 moX0_opposite jw_ml_X1_45 jw_st_X0_opposite dX1_turnedStep_20 (w_X0_opposite (d - 1) _ _ _ (by omega)    ) (by omega) (Nat.zero_le _) (Nat.zero_le _) (Nat.le_of_ble_eq_true rfl) (fun r20 V20 h20 => ?_)
    obtain ⟨⟨y20, rfl, hl20, hh20⟩, hE20⟩ := h20
    have hE20 := hE20.symm
    subst hE20
    refine J_goto (tgt := 31) dX1_turnedStep_23 (by decide) ?_
    refine J_istore dX1_turnedStep_31 rfl (by decide) ?_
    refine J_aload_n dX1_turnedStep_33 rfl ?_
    refine J_get jf_X1_23 dX1_turnedStep_34 hO5 hF5 ?_
    refine J_iload_n dX1_turnedStep_37 rfl ?_
    refine J_iload dX1_turnedStep_38 rfl ?_
    refine J_callS3 moX0_turned jw_ml_X1_49 jw_st_X0_turned dX1_turnedStep_40 (w_X0_turned (d - 1) _ _ _ _ (by omega)    ) (by omega) (Nat.zero_le _) (Nat.zero_le _) (Nat.le_of_ble_eq_true rfl) (fun r40 V40 h40 => ?_)
    obtain ⟨⟨y40, rfl, hl40, hh40⟩, hE40⟩ := h40
    have hE40 := hE40.symm
    subst hE40
    exact J_ret (r := some (.int _)) dX1_turnedStep_43 ⟨rfl, _, rfl, rfl⟩ (⟨rN_of _, rfl⟩)
set_option maxRecDepth 100000 in
set_option maxHeartbeats 4000000 in
theorem w_X1_isBelow {tS : jTS} (d : Nat) (V0 : jH) (a0 : Nat) (x1 : Int32) (x2 : Int32) (a3 : Nat) {t3 : Nat} (hd : 3 ≤ d) (hW : WT V0) (ha0 : jis V0 (.inr 1) a0) (ha3 : jis V0 (.inl t3) a3) (hct : jAc t3 = .inl (-2147483648, 2147483647)) (htt : jT[t3]? = some .int) : jTot tS mX1_isBelow d [.ref a0, .int x1, .int x2, .ref a3] V0 0 0 (fun r V => (rI 0 1) r V ∧ V = V0) := by
  refine jTot.of_J [some (.ref a0), some (.int x1), some (.int x2), some (.ref a3), none, none] moX1_isBelow (Nat.le_of_ble_eq_true rfl) rfl ?_
  have he : jeff [] V0 V0 := jeff.refl _ _
  refine J_iconst (v := 0) dX1_isBelow_0 (by decide) ?_
  refine J_istore dX1_isBelow_1 rfl (by decide) ?_
  have L3 : ∀ (N : Nat) (i4 : Int32), WT V0 → jeff [] V0 V0 → jis V0 (.inr 1) a0 → jis V0 (.inl t3) a3 → (2147483648 - i4.toInt).toNat < N → J tS mX1_isBelow d 3 [some (.ref a0), some (.int x1), some (.int x2), some (.ref a3), some (.int i4), none] [] V0 0 0 (fun r V => (rI 0 1) r V ∧ V = V0) := by
    intro N
    induction N with
    | zero => intro i4 hW he ha0 ha3  hm; exact absurd hm (Nat.not_lt_zero _)
    | succ N ih =>
      intro i4 hW he ha0 ha3  hm
      have ih3 := ih
      refine J_iload dX1_isBelow_3 rfl ?_
      refine J_aload_n dX1_isBelow_5 rfl ?_
      obtain ⟨fs6, hO6, hK6⟩ := WT_obj hW id ha0
      obtain ⟨w6, hF6, y6, rfl, hl6, hh6⟩ := hK6.2 6 (.inl (0, 120)) rfl
      dsimp only at hl6 hh6
      refine J_get jf_X1_9 dX1_isBelow_6 hO6 hF6 ?_
      refine J_icmp_ge (tgt := 51) dX1_isBelow_9 (by decide) (fun c9 => ?_) (fun c9 => ?_)
      · refine J_iconst (v := 0) dX1_isBelow_51 (by decide) ?_
        exact J_ret (r := some (.int _)) dX1_isBelow_52 ⟨rfl, _, rfl, (by first | rfl | exact nar_b (by assumption) (by assumption))⟩ (⟨⟨_, rfl, by first | decide | assumption | omega, by first | decide | assumption | omega⟩, rfl⟩)
      · refine J_aload_n dX1_isBelow_12 rfl ?_
        refine J_iload_n dX1_isBelow_13 rfl ?_
        refine J_iload_n dX1_isBelow_14 rfl ?_
        refine J_iload dX1_isBelow_15 rfl ?_
        refine J_callS4 moX1_turnedStep jw_ml_X1_41 jw_st_X1_turnedStep dX1_isBelow_17 (w_X1_turnedStep (d - 1) _ _ _ _ _ (by omega) hW  ha0 ) (by omega) (Nat.zero_le _) (Nat.zero_le _) (Nat.le_of_ble_eq_true rfl) (fun r17 V17 h17 => ?_)
        obtain ⟨⟨y17, rfl, hl17, hh17⟩, hE17⟩ := h17
        have hE17 := hE17.symm
        subst hE17
        refine J_aload_n dX1_isBelow_20 rfl ?_
        refine J_iload dX1_isBelow_21 rfl ?_
        refine J_callSN2 moX6_cell (host := "WalkGrounds") (List.mem_of_getElem? (i := 3) rfl) jw_st_X6_cell dX1_isBelow_23 (w_X6_cell (d - 1) _ _ _ hW ha3 hct htt) (by omega) (Nat.zero_le _) (Nat.zero_le _) (Nat.le_of_ble_eq_true rfl) (fun r23 V23 h23 => ?_)
        obtain ⟨⟨y23, rfl, hl23, hh23⟩, hE23⟩ := h23
        have hE23 := hE23.symm
        subst hE23
        refine J_isub dX1_isBelow_26 ?_
        refine J_istore dX1_isBelow_27 rfl (by decide) ?_
        refine J_iload dX1_isBelow_29 rfl ?_
        refine J_if_eq (tgt := 45) dX1_isBelow_31 (by decide) (fun c31 => ?_) (fun c31 => ?_)
        · refine J_iinc dX1_isBelow_45 rfl j_inc1 rfl (by decide) ?_
          refine J_goto (tgt := 3) dX1_isBelow_48 (by decide) ?_
          refine J.mask [true, true, true, true, true, false] ?_
          exact ih3  _ hW he ha0 ha3  (jdec_up (Int32.not_le.mp c9) (by assumption))
        · refine J_iload dX1_isBelow_34 rfl ?_
          refine J_if_ge (tgt := 43) dX1_isBelow_36 (by decide) (fun c36 => ?_) (fun c36 => ?_)
          · refine J_iconst (v := 0) dX1_isBelow_43 (by decide) ?_
            exact J_ret (r := some (.int _)) dX1_isBelow_44 ⟨rfl, _, rfl, (by first | rfl | exact nar_b (by assumption) (by assumption))⟩ (⟨⟨_, rfl, by first | decide | assumption | omega, by first | decide | assumption | omega⟩, rfl⟩)
          · refine J_iconst (v := 1) dX1_isBelow_39 (by decide) ?_
            refine J_goto (tgt := 44) dX1_isBelow_40 (by decide) ?_
            exact J_ret (r := some (.int _)) dX1_isBelow_44 ⟨rfl, _, rfl, (by first | rfl | exact nar_b (by assumption) (by assumption))⟩ (⟨⟨_, rfl, by first | decide | assumption | omega, by first | decide | assumption | omega⟩, rfl⟩)
  refine J.mask [true, true, true, true, true, false] ?_
  exact L3 _  _ hW he ha0 ha3  (Nat.lt_succ_self _)
set_option maxRecDepth 100000 in
set_option maxHeartbeats 4000000 in
theorem w_X1_keepLesser {tS : jTS} (d : Nat) (V0 : jH) (a0 : Nat) (x1 : Int32) (x2 : Int32) (a3 : Nat)  (hd : 4 ≤ d) (hW : WT V0) (ha0 : jis V0 (.inr 1) a0) (ha3 : jis V0 (.inl 7) a3)  : jTot tS mX1_keepLesser d [.ref a0, .int x1, .int x2, .ref a3] V0 0 0 (jPost [.inl 7] V0 rV) := by
  refine jTot.of_J [some (.ref a0), some (.int x1), some (.int x2), some (.ref a3), none] moX1_keepLesser (Nat.le_of_ble_eq_true rfl) rfl ?_
  have he : jeff [.inl 7] V0 V0 := jeff.refl _ _
  refine J_aload_n dX1_keepLesser_0 rfl ?_
  refine J_iload_n dX1_keepLesser_1 rfl ?_
  refine J_iload_n dX1_keepLesser_2 rfl ?_
  refine J_aload_n dX1_keepLesser_3 rfl ?_
  refine J_callS4 moX1_isBelow jw_ml_X1_37 jw_st_X1_isBelow dX1_keepLesser_4 (w_X1_isBelow (d - 1) _ _ _ _ _ (by omega) hW  ha0 ha3 rfl rfl) (by omega) (Nat.zero_le _) (Nat.zero_le _) (Nat.le_of_ble_eq_true rfl) (fun r4 V4 h4 => ?_)
  obtain ⟨⟨y4, rfl, hl4, hh4⟩, hE4⟩ := h4
  have hE4 := hE4.symm
  subst hE4
  refine J_if_ne (tgt := 11) dX1_keepLesser_7 (by decide) (fun c7 => ?_) (fun c7 => ?_)
  · refine J_iconst (v := 0) dX1_keepLesser_11 (by decide) ?_
    refine J_istore dX1_keepLesser_12 rfl (by decide) ?_
    have L14 : ∀ (N : Nat) (V : jH) (i4 : Int32), WT V → jeff [.inl 7] V0 V → jis V (.inr 1) a0 → jis V (.inl 7) a3 → (2147483648 - i4.toInt).toNat < N → J tS mX1_keepLesser d 14 [some (.ref a0), some (.int x1), some (.int x2), some (.ref a3), some (.int i4)] [] V 0 0 (jPost [.inl 7] V0 rV) := by
      intro N
      induction N with
      | zero => intro V i4 hW he ha0 ha3  hm; exact absurd hm (Nat.not_lt_zero _)
      | succ N ih =>
        intro V i4 hW he ha0 ha3  hm
        have ih14 := ih
        refine J_iload dX1_keepLesser_14 rfl ?_
        refine J_aload_n dX1_keepLesser_16 rfl ?_
        obtain ⟨fs17, hO17, hK17⟩ := WT_obj hW id ha0
        obtain ⟨w17, hF17, y17, rfl, hl17, hh17⟩ := hK17.2 6 (.inl (0, 120)) rfl
        dsimp only at hl17 hh17
        refine J_get jf_X1_9 dX1_keepLesser_17 hO17 hF17 ?_
        refine J_icmp_ge (tgt := 43) dX1_keepLesser_20 (by decide) (fun c20 => ?_) (fun c20 => ?_)
        · exact J_ret (r := none) dX1_keepLesser_43 ⟨rfl, rfl⟩ (⟨hW, he, rfl⟩)
        · refine J_aload_n dX1_keepLesser_23 rfl ?_
          refine J_iload dX1_keepLesser_24 rfl ?_
          refine J_aload_n dX1_keepLesser_26 rfl ?_
          refine J_iload_n dX1_keepLesser_27 rfl ?_
          refine J_iload_n dX1_keepLesser_28 rfl ?_
          refine J_iload dX1_keepLesser_29 rfl ?_
          refine J_callS4 moX1_turnedStep jw_ml_X1_41 jw_st_X1_turnedStep dX1_keepLesser_31 (w_X1_turnedStep (d - 1) _ _ _ _ _ (by omega) hW  ha0 ) (by omega) (Nat.zero_le _) (Nat.zero_le _) (Nat.le_of_ble_eq_true rfl) (fun r31 V31 h31 => ?_)
          obtain ⟨⟨y31, rfl, hl31, hh31⟩, hE31⟩ := h31
          have hE31 := hE31.symm
          subst hE31
          refine J_callSN3 moX6_put (host := "WalkGrounds") (List.mem_of_getElem? (i := 2) rfl) jw_st_X6_put dX1_keepLesser_34 (w_X6_put (d - 1) _ _ _ _ hW ha3 rfl rfl) (by omega) (Nat.zero_le _) (Nat.zero_le _) (Nat.le_of_ble_eq_true rfl) (fun r34 V34 h34 => ?_)
          obtain ⟨hW, hx34, hr34⟩ := h34
          have he := he.trans (hx34.sub (jsub_of rfl))
          have ha0 := ha0.mono hx34.1
          have ha3 := ha3.mono hx34.1
          have hO17 := hx34.2 _ _ hO17 (jnot_of rfl)
          have hK17 := hK17.mono hx34.1
          cases hr34
          refine J_iinc dX1_keepLesser_37 rfl j_inc1 rfl (by decide) ?_
          refine J_goto (tgt := 14) dX1_keepLesser_40 (by decide) ?_
          refine J.mask [true, true, true, true, true] ?_
          exact ih14 _ _ hW he ha0 ha3  (jdec_up (Int32.not_le.mp c20) (by assumption))
    refine J.mask [true, true, true, true, true] ?_
    exact L14 _ _ _ hW he ha0 ha3  (Nat.lt_succ_self _)
  · exact J_ret (r := none) dX1_keepLesser_10 ⟨rfl, rfl⟩ (⟨hW, he, rfl⟩)
set_option maxRecDepth 100000 in
set_option maxHeartbeats 4000000 in
theorem w_X1_writeForm {tS : jTS} (d : Nat) (V0 : jH) (a0 : Nat) (a1 : Nat)  (hd : 5 ≤ d) (hW : WT V0) (ha0 : jis V0 (.inr 1) a0) (ha1 : jis V0 (.inl 7) a1)  : jTot tS mX1_writeForm d [.ref a0, .ref a1] V0 0 0 (jPost [.inl 7] V0 rV) := by
  refine jTot.of_J [some (.ref a0), some (.ref a1), none] moX1_writeForm (Nat.le_of_ble_eq_true rfl) rfl ?_
  have he : jeff [.inl 7] V0 V0 := jeff.refl _ _
  refine J_iconst (v := 0) dX1_writeForm_0 (by decide) ?_
  refine J_istore_n dX1_writeForm_1 rfl (by decide) ?_
  have L2 : ∀ (N : Nat) (V : jH) (i2 : Int32), WT V → jeff [.inl 7] V0 V → jis V (.inr 1) a0 → jis V (.inl 7) a1 → (2147483648 - i2.toInt).toNat < N → J tS mX1_writeForm d 2 [some (.ref a0), some (.ref a1), some (.int i2)] [] V 0 0 (jPost [.inl 7] V0 rV) := by
    intro N
    induction N with
    | zero => intro V i2 hW he ha0 ha1  hm; exact absurd hm (Nat.not_lt_zero _)
    | succ N ih =>
      intro V i2 hW he ha0 ha1  hm
      have ih2 := ih
      refine J_iload_n dX1_writeForm_2 rfl ?_
      refine J_aload_n dX1_writeForm_3 rfl ?_
      obtain ⟨fs4, hO4, hK4⟩ := WT_obj hW id ha0
      obtain ⟨w4, hF4, y4, rfl, hl4, hh4⟩ := hK4.2 6 (.inl (0, 120)) rfl
      dsimp only at hl4 hh4
      refine J_get jf_X1_9 dX1_writeForm_4 hO4 hF4 ?_
      refine J_icmp_ge (tgt := 26) dX1_writeForm_7 (by decide) (fun c7 => ?_) (fun c7 => ?_)
      · refine J_iconst (v := 0) dX1_writeForm_26 (by decide) ?_
        refine J_istore_n dX1_writeForm_27 rfl (by decide) ?_
        have L28 : ∀ (N : Nat) (V : jH) (i2 : Int32), WT V → jeff [.inl 7] V0 V → jis V (.inr 1) a0 → jis V (.inl 7) a1 → (2147483648 - i2.toInt).toNat < N → J tS mX1_writeForm d 28 [some (.ref a0), some (.ref a1), some (.int i2)] [] V 0 0 (jPost [.inl 7] V0 rV) := by
          intro N
          induction N with
          | zero => intro V i2 hW he ha0 ha1  hm; exact absurd hm (Nat.not_lt_zero _)
          | succ N ih =>
            intro V i2 hW he ha0 ha1  hm
            have ih28 := ih
            refine J_iload_n dX1_writeForm_28 rfl ?_
            refine J_aload_n dX1_writeForm_29 rfl ?_
            obtain ⟨fs30, hO30, hK30⟩ := WT_obj hW id ha0
            obtain ⟨w30, hF30, y30, rfl, hl30, hh30⟩ := hK30.2 5 (.inl ((-2147483648), 2147483647)) rfl
            dsimp only at hl30 hh30
            refine J_get jf_X1_23 dX1_writeForm_30 hO30 hF30 ?_
            refine J_callS1 moX0_turns jw_ml_X1_26 jw_st_X0_turns dX1_writeForm_33 (w_X0_turns (d - 1) _ _ (by omega)    ) (by omega) (Nat.zero_le _) (Nat.zero_le _) (Nat.le_of_ble_eq_true rfl) (fun r33 V33 h33 => ?_)
            obtain ⟨⟨y33, rfl, hl33, hh33⟩, hE33⟩ := h33
            have hE33 := hE33.symm
            subst hE33
            refine J_icmp_ge (tgt := 59) dX1_writeForm_36 (by decide) (fun c36 => ?_) (fun c36 => ?_)
            · exact J_ret (r := none) dX1_writeForm_59 ⟨rfl, rfl⟩ (⟨hW, he, rfl⟩)
            · refine J_aload_n dX1_writeForm_39 rfl ?_
              refine J_iload_n dX1_writeForm_40 rfl ?_
              refine J_iconst (v := 0) dX1_writeForm_41 (by decide) ?_
              refine J_aload_n dX1_writeForm_42 rfl ?_
              refine J_callS4 moX1_keepLesser jw_ml_X1_31 jw_st_X1_keepLesser dX1_writeForm_43 (w_X1_keepLesser (d - 1) _ _ _ _ _ (by omega) hW  ha0 ha1 ) (by omega) (Nat.zero_le _) (Nat.zero_le _) (Nat.le_of_ble_eq_true rfl) (fun r43 V43 h43 => ?_)
              obtain ⟨hW, hx43, hr43⟩ := h43
              have he := he.trans (hx43.sub (jsub_of rfl))
              have ha0 := ha0.mono hx43.1
              have ha1 := ha1.mono hx43.1
              have hO30 := hx43.2 _ _ hO30 (jnot_of rfl)
              have hK30 := hK30.mono hx43.1
              cases hr43
              refine J_aload_n dX1_writeForm_46 rfl ?_
              refine J_iload_n dX1_writeForm_47 rfl ?_
              refine J_iconst (v := 1) dX1_writeForm_48 (by decide) ?_
              refine J_aload_n dX1_writeForm_49 rfl ?_
              refine J_callS4 moX1_keepLesser jw_ml_X1_31 jw_st_X1_keepLesser dX1_writeForm_50 (w_X1_keepLesser (d - 1) _ _ _ _ _ (by omega) hW  ha0 ha1 ) (by omega) (Nat.zero_le _) (Nat.zero_le _) (Nat.le_of_ble_eq_true rfl) (fun r50 V50 h50 => ?_)
              obtain ⟨hW, hx50, hr50⟩ := h50
              have he := he.trans (hx50.sub (jsub_of rfl))
              have ha0 := ha0.mono hx50.1
              have ha1 := ha1.mono hx50.1
              have hO30 := hx50.2 _ _ hO30 (jnot_of rfl)
              have hK30 := hK30.mono hx50.1
              cases hr50
              refine J_iinc dX1_writeForm_53 rfl j_inc1 rfl (by decide) ?_
              refine J_goto (tgt := 28) dX1_writeForm_56 (by decide) ?_
              refine J.mask [true, true, true] ?_
              exact ih28 _ _ hW he ha0 ha1  (jdec_up (Int32.not_le.mp c36) (by assumption))
        refine J.mask [true, true, true] ?_
        exact L28 _ _ _ hW he ha0 ha1  (Nat.lt_succ_self _)
      · refine J_aload_n dX1_writeForm_10 rfl ?_
        refine J_iload_n dX1_writeForm_11 rfl ?_
        refine J_aload_n dX1_writeForm_12 rfl ?_
        refine J_iload_n dX1_writeForm_13 rfl ?_
        refine Jw_callV1 (q9 := (RX3, TX3, 7)) moX3_direction jw_ml_X1_15 jw_im_X3_direction jw_se_X3_direction ha0 rfl rfl dX1_writeForm_14 (w_X3_direction (d - 1) _ _ _ (by omega) hW  ha0 ) (by omega) (Nat.zero_le _) (Nat.zero_le _) (Nat.le_of_ble_eq_true rfl) (fun r14 V14 h14 => ?_)
        obtain ⟨⟨y14, rfl, hl14, hh14⟩, hE14⟩ := h14
        have hE14 := hE14.symm
        subst hE14
        refine J_callSN3 moX6_put (host := "WalkGrounds") (List.mem_of_getElem? (i := 2) rfl) jw_st_X6_put dX1_writeForm_17 (w_X6_put (d - 1) _ _ _ _ hW ha1 rfl rfl) (by omega) (Nat.zero_le _) (Nat.zero_le _) (Nat.le_of_ble_eq_true rfl) (fun r17 V17 h17 => ?_)
        obtain ⟨hW, hx17, hr17⟩ := h17
        have he := he.trans (hx17.sub (jsub_of rfl))
        have ha0 := ha0.mono hx17.1
        have ha1 := ha1.mono hx17.1
        have hO4 := hx17.2 _ _ hO4 (jnot_of rfl)
        have hK4 := hK4.mono hx17.1
        cases hr17
        refine J_iinc dX1_writeForm_20 rfl j_inc1 rfl (by decide) ?_
        refine J_goto (tgt := 2) dX1_writeForm_23 (by decide) ?_
        refine J.mask [true, true, true] ?_
        exact ih2 _ _ hW he ha0 ha1  (jdec_up (Int32.not_le.mp c7) (by assumption))
  refine J.mask [true, true, true] ?_
  exact L2 _ _ _ hW he ha0 ha1  (Nat.lt_succ_self _)
