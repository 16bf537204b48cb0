set_option maxRecDepth 100000 in
set_option maxHeartbeats 4000000 in
theorem w_X5_arriveAt {tS : jTS} (d : Nat) (V0 : jH) (a0 : Nat) (x1 : Int32)  (hd : 0 ≤ d) (hW : WT V0) (ha0 : jis V0 (.inr 3) a0)  : jTot tS mX5_arriveAt d [.ref a0, .int x1] V0 0 0 (jPost [.inr 3, .inl 3, .inl 10] V0 rV) := by
  refine jTot.of_J [some (.ref a0), some (.int x1)] moX5_arriveAt (Nat.le_of_ble_eq_true rfl) rfl ?_
  have he : jeff [.inr 3, .inl 3, .inl 10] V0 V0 := jeff.refl _ _
  refine J_iload_n dX5_arriveAt_0 rfl ?_
  refine J_if_lt (tgt := 42) dX5_arriveAt_1 (by decide) (fun c1 => ?_) (fun c1 => ?_)
  · exact J_ret (r := none) dX5_arriveAt_42 ⟨rfl, rfl⟩ (⟨hW, he, rfl⟩)
  · refine J_iload_n dX5_arriveAt_4 rfl ?_
    refine J_aload_n dX5_arriveAt_5 rfl ?_
    obtain ⟨fs6, hO6, hK6⟩ := WT_obj hW id ha0
    obtain ⟨w6, hF6, b6, rfl, hb6⟩ := hK6.2 3 (.inr (some (.inl 3))) rfl
    refine J_get jf_X5_43 dX5_arriveAt_6 hO6 hF6 ?_
    obtain ⟨n9, f9, hA9, hN9, hM9, hv9⟩ := WT_arrI (r := (-128, 127)) hW id rfl hb6
    refine J_alen (v := Int32.ofNat n9) dX5_arriveAt_9 hA9 rfl rfl ?_
    refine J_icmp_ge (tgt := 42) dX5_arriveAt_10 (by decide) (fun c10 => ?_) (fun c10 => ?_)
    · exact J_ret (r := none) dX5_arriveAt_42 ⟨rfl, rfl⟩ (⟨hW, he, rfl⟩)
    · refine J_aload_n dX5_arriveAt_13 rfl ?_
      refine J_get jf_X5_43 dX5_arriveAt_14 hO6 hF6 ?_
      refine J_iload_n dX5_arriveAt_17 rfl ?_
      refine Jw_bald dX5_arriveAt_18 hA9 rfl hv9 (by first | exact vp_in_g (by assumption) (by assumption) (by assumption) | exact vp_in_g1 (by assumption) (by assumption) (by assumption) | exact vp_in_g2 (by assumption) (by assumption) (by assumption) | exact vp_in_g3 (by assumption) (by assumption) (by assumption) | exact vp_in_n (by omega) (by omega)) (fun y18 hl18 hh18 => ?_)
      refine J_iconst (v := 1) dX5_arriveAt_19 (by decide) ?_
      refine J_icmp_ne (tgt := 42) dX5_arriveAt_20 (by decide) (fun c20 => ?_) (fun c20 => ?_)
      · exact J_ret (r := none) dX5_arriveAt_42 ⟨rfl, rfl⟩ (⟨hW, he, rfl⟩)
      · refine J_aload_n dX5_arriveAt_23 rfl ?_
        obtain ⟨w24, hF24, y24, rfl, hl24, hh24⟩ := hK6.2 6 (.inl (0, 2147483647)) rfl
        dsimp only at hl24 hh24
        refine J_get jf_X5_15 dX5_arriveAt_24 hO6 hF24 ?_
        refine J_if_lt (tgt := 42) dX5_arriveAt_27 (by decide) (fun c27 => ?_) (fun c27 => ?_)
        · exact J_ret (r := none) dX5_arriveAt_42 ⟨rfl, rfl⟩ (⟨hW, he, rfl⟩)
        · refine J_aload_n dX5_arriveAt_30 rfl ?_
          refine J_get jf_X5_15 dX5_arriveAt_31 hO6 hF24 ?_
          refine J_aload_n dX5_arriveAt_34 rfl ?_
          obtain ⟨w35, hF35, b35, rfl, hb35⟩ := hK6.2 4 (.inr (some (.inl 10))) rfl
          refine J_get jf_X5_47 dX5_arriveAt_35 hO6 hF35 ?_
          obtain ⟨n38, f38, hA38, hN38, hM38, hv38⟩ := WT_arrI (r := (-2147483648, 2147483647)) hW id rfl hb35
          refine J_alen (v := Int32.ofNat n38) dX5_arriveAt_38 hA38 rfl rfl ?_
          refine J_icmp_lt (tgt := 43) dX5_arriveAt_39 (by decide) (fun c39 => ?_) (fun c39 => ?_)
          · refine J_aload_n dX5_arriveAt_43 rfl ?_
            refine J_get jf_X5_43 dX5_arriveAt_44 hO6 hF6 ?_
            refine J_iload_n dX5_arriveAt_47 rfl ?_
            refine J_iconst (v := 2) dX5_arriveAt_48 (by decide) ?_
            refine Jw_bast hW id dX5_arriveAt_49 hA9 rfl rfl (by first | exact vp_in_g (by assumption) (by assumption) (by assumption) | exact vp_in_g1 (by assumption) (by assumption) (by assumption) | exact vp_in_g2 (by assumption) (by assumption) (by assumption) | exact vp_in_g3 (by assumption) (by assumption) (by assumption) | exact vp_in_n (by omega) (by omega)) (by first | decide | assumption | omega) (by first | decide | assumption | omega) rfl (fun V49 hW hx49 hy49 => ?_)
            have he := he.trans (hx49.sub (jsub_of rfl))
            have ha0 := ha0.mono hx49.1
            have hb6 := hb6.mono hx49.1
            have hb35 := hb35.mono hx49.1
            have hO6 := hx49.2 _ _ hO6 (jnot_of rfl)
            have hK6 := hK6.mono hx49.1
            have hA38 := hx49.2 _ _ hA38 (jnot_of rfl)
            refine J_aload_n dX5_arriveAt_50 rfl ?_
            refine J_get jf_X5_47 dX5_arriveAt_51 hO6 hF35 ?_
            refine J_aload_n dX5_arriveAt_54 rfl ?_
            refine J_get jf_X5_15 dX5_arriveAt_55 hO6 hF24 ?_
            refine J_iload_n dX5_arriveAt_58 rfl ?_
            refine Jw_iast hW id dX5_arriveAt_59 hA38 rfl rfl (by first | exact vp_in_g (by assumption) (by assumption) (by assumption) | exact vp_in_g1 (by assumption) (by assumption) (by assumption) | exact vp_in_g2 (by assumption) (by assumption) (by assumption) | exact vp_in_g3 (by assumption) (by assumption) (by assumption) | exact vp_in_n (by omega) (by omega)) (j_rng _).1 (j_rng _).2 (fun V59 hW hx59 hy59 => ?_)
            have he := he.trans (hx59.sub (jsub_of rfl))
            have ha0 := ha0.mono hx59.1
            have hb6 := hb6.mono hx59.1
            have hb35 := hb35.mono hx59.1
            have hO6 := hx59.2 _ _ hO6 (jnot_of rfl)
            have hK6 := hK6.mono hx59.1
            refine J_aload_n dX5_arriveAt_60 rfl ?_
            refine J_dup dX5_arriveAt_61 rfl ?_
            refine J_get jf_X5_15 dX5_arriveAt_62 hO6 hF24 ?_
            refine J_iconst (v := 1) dX5_arriveAt_65 (by decide) ?_
            refine J_iadd dX5_arriveAt_66 ?_
            refine Jw_putI hW id ha0 rfl jf_X5_15 jt_X5_6 dX5_arriveAt_67 (by have h9 := jm_up c39; omega) (j_rng _).2 rfl rfl (fun V67 hW hx67 => ?_)
            have he := he.trans (hx67.sub (jsub_of rfl))
            have ha0 := ha0.mono hx67.1
            exact J_ret (r := none) dX5_arriveAt_70 ⟨rfl, rfl⟩ (⟨hW, he, rfl⟩)
          · exact J_ret (r := none) dX5_arriveAt_42 ⟨rfl, rfl⟩ (⟨hW, he, rfl⟩)
set_option maxRecDepth 100000 in
set_option maxHeartbeats 4000000 in
theorem w_X5_takeApart {tS : jTS} (d : Nat) (V0 : jH) (a0 : Nat) (x1 : Int32)  (hd : 1 ≤ d) (hW : WT V0) (ha0 : jis V0 (.inr 3) a0)  : jTot tS mX5_takeApart d [.ref a0, .int x1] V0 0 0 (jPost [.inl 11] V0 rV) := by
  refine jTot.of_J [some (.ref a0), some (.int x1), none, none] moX5_takeApart (Nat.le_of_ble_eq_true rfl) rfl ?_
  have he : jeff [.inl 11] V0 V0 := jeff.refl _ _
  refine J_aload_n dX5_takeApart_0 rfl ?_
  obtain ⟨fs1, hO1, hK1⟩ := WT_obj hW id ha0
  obtain ⟨w1, hF1, y1, rfl, hl1, hh1⟩ := hK1.2 2 (.inl ((-2147483648), 2147483647)) rfl
  dsimp only at hl1 hh1
  refine J_get jf_X5_40 dX5_takeApart_1 hO1 hF1 ?_
  refine J_iconst (v := 1) dX5_takeApart_4 (by decide) ?_
  refine J_icmp_ge (tgt := 9) dX5_takeApart_5 (by decide) (fun c5 => ?_) (fun c5 => ?_)
  · refine J_iload_n dX5_takeApart_9 rfl ?_
    refine J_istore_n dX5_takeApart_10 rfl (by decide) ?_
    refine J_aload_n dX5_takeApart_11 rfl ?_
    obtain ⟨w12, hF12, y12, rfl, hl12, hh12⟩ := hK1.2 1 (.inl (0, 6)) rfl
    dsimp only at hl12 hh12
    refine J_get jf_X5_31 dX5_takeApart_12 hO1 hF12 ?_
    refine J_iconst (v := 1) dX5_takeApart_15 (by decide) ?_
    refine J_isub dX5_takeApart_16 ?_
    refine J_istore_n dX5_takeApart_17 rfl (by decide) ?_
    have L18 : ∀ (N : Nat) (V : jH) (i2 : Int32) (i3 : Int32), WT V → jeff [.inl 11] V0 V → jis V (.inr 3) a0 → (V a0 = some (.inr (3, fs1))) → (jokO V (jFs 3) fs1) → (i3.toInt + 2147483648).toNat < N → J tS mX5_takeApart d 18 [some (.ref a0), some (.int x1), some (.int i2), some (.int i3)] [] V 0 0 (jPost [.inl 11] V0 rV) := by
      intro N
      induction N with
      | zero => intro V i2 i3 hW he ha0 hO1 hK1 hm; exact absurd hm (Nat.not_lt_zero _)
      | succ N ih =>
        intro V i2 i3 hW he ha0 hO1 hK1 hm
        have ih18 := ih
        refine J_iload_n dX5_takeApart_18 rfl ?_
        refine J_if_lt (tgt := 49) dX5_takeApart_19 (by decide) (fun c19 => ?_) (fun c19 => ?_)
        · exact J_ret (r := none) dX5_takeApart_49 ⟨rfl, rfl⟩ (⟨hW, he, rfl⟩)
        · refine J_aload_n dX5_takeApart_22 rfl ?_
          obtain ⟨w23, hF23, b23, rfl, hb23⟩ := hK1.2 5 (.inr (some (.inl 11))) rfl
          refine J_get jf_X5_9 dX5_takeApart_23 hO1 hF23 ?_
          refine J_iload_n dX5_takeApart_26 rfl ?_
          refine J_iload_n dX5_takeApart_27 rfl ?_
          refine J_aload_n dX5_takeApart_28 rfl ?_
          refine J_get jf_X5_40 dX5_takeApart_29 hO1 hF1 ?_
          refine J_irem dX5_takeApart_32 (jne0 c5) ?_
          refine J_callSN3 moX6_put (host := "WalkGrounds") (List.mem_of_getElem? (i := 6) rfl) jw_st_X6_put dX5_takeApart_33 (w_X6_put (d - 1) _ _ _ _ hW hb23 rfl rfl) (by omega) (Nat.zero_le _) (Nat.zero_le _) (Nat.le_of_ble_eq_true rfl) (fun r33 V33 h33 => ?_)
          obtain ⟨hW, hx33, hr33⟩ := h33
          have he := he.trans (hx33.sub (jsub_of rfl))
          have ha0 := ha0.mono hx33.1
          have hb23 := hb23.mono hx33.1
          have hO1 := hx33.2 _ _ hO1 (jnot_of rfl)
          have hK1 := hK1.mono hx33.1
          cases hr33
          refine J_iload_n dX5_takeApart_36 rfl ?_
          refine J_aload_n dX5_takeApart_37 rfl ?_
          refine J_get jf_X5_40 dX5_takeApart_38 hO1 hF1 ?_
          refine J_idiv dX5_takeApart_41 (jne0 c5) ?_
          refine J_istore_n dX5_takeApart_42 rfl (by decide) ?_
          refine J_iinc dX5_takeApart_43 rfl j_incm1 rfl (by decide) ?_
          refine J_goto (tgt := 18) dX5_takeApart_46 (by decide) ?_
          refine J.mask [true, true, true, true] ?_
          exact ih18 _ _ _ hW he ha0 hO1 hK1 (jdec_dn c19 (by assumption))
    refine J.mask [true, true, true, true] ?_
    exact L18 _ _ _ _ hW he ha0 hO1 hK1 (Nat.lt_succ_self _)
  · exact J_ret (r := none) dX5_takeApart_8 ⟨rfl, rfl⟩ (⟨hW, he, rfl⟩)
set_option maxRecDepth 100000 in
set_option maxHeartbeats 4000000 in
theorem w_X5_numberTurned {tS : jTS} (d : Nat) (V0 : jH) (a0 : Nat) (x1 : Int32) (x2 : Int32)  (hd : 2 ≤ d) (hW : WT V0) (ha0 : jis V0 (.inr 3) a0)  : jTot tS mX5_numberTurned d [.ref a0, .int x1, .int x2] V0 0 0 (fun r V => rN r V ∧ V = V0) := by
  refine jTot.of_J [some (.ref a0), some (.int x1), some (.int x2), none, none, none] moX5_numberTurned (Nat.le_of_ble_eq_true rfl) rfl ?_
  have he : jeff [] V0 V0 := jeff.refl _ _
  refine J_iconst (v := 0) dX5_numberTurned_0 (by decide) ?_
  refine J_istore_n dX5_numberTurned_1 rfl (by decide) ?_
  refine J_iconst (v := 0) dX5_numberTurned_2 (by decide) ?_
  refine J_istore dX5_numberTurned_3 rfl (by decide) ?_
  have L5 : ∀ (N : Nat) (i3 : Int32) (i4 : Int32), WT V0 → jeff [] V0 V0 → jis V0 (.inr 3) a0 → (2147483648 - i4.toInt).toNat < N → J tS mX5_numberTurned d 5 [some (.ref a0), some (.int x1), some (.int x2), some (.int i3), some (.int i4), none] [] V0 0 0 (fun r V => rN r V ∧ V = V0) := by
    intro N
    induction N with
    | zero => intro i3 i4 hW he ha0  hm; exact absurd hm (Nat.not_lt_zero _)
    | succ N ih =>
      intro i3 i4 hW he ha0  hm
      have ih5 := ih
      refine J_iload dX5_numberTurned_5 rfl ?_
      refine J_aload_n dX5_numberTurned_7 rfl ?_
      obtain ⟨fs8, hO8, hK8⟩ := WT_obj hW id ha0
      obtain ⟨w8, hF8, y8, rfl, hl8, hh8⟩ := hK8.2 1 (.inl (0, 6)) rfl
      dsimp only at hl8 hh8
      refine J_get jf_X5_31 dX5_numberTurned_8 hO8 hF8 ?_
      refine J_icmp_ge (tgt := 60) dX5_numberTurned_11 (by decide) (fun c11 => ?_) (fun c11 => ?_)
      · refine J_iload_n dX5_numberTurned_60 rfl ?_
        exact J_ret (r := some (.int _)) dX5_numberTurned_61 ⟨rfl, _, rfl, rfl⟩ (⟨rN_of _, rfl⟩)
      · refine J_aload_n dX5_numberTurned_14 rfl ?_
        obtain ⟨w15, hF15, b15, rfl, hb15⟩ := hK8.2 5 (.inr (some (.inl 11))) rfl
        refine J_get jf_X5_9 dX5_numberTurned_15 hO8 hF15 ?_
        refine J_iload dX5_numberTurned_18 rfl ?_
        refine J_callSN2 moX6_cell (host := "WalkGrounds") (List.mem_of_getElem? (i := 7) rfl) jw_st_X6_cell dX5_numberTurned_20 (w_X6_cell (d - 1) _ _ _ hW hb15 rfl rfl) (by omega) (Nat.zero_le _) (Nat.zero_le _) (Nat.le_of_ble_eq_true rfl) (fun r20 V20 h20 => ?_)
        obtain ⟨⟨y20, rfl, hl20, hh20⟩, hE20⟩ := h20
        have hE20 := hE20.symm
        subst hE20
        refine J_istore dX5_numberTurned_23 rfl (by decide) ?_
        refine J_iload_n dX5_numberTurned_25 rfl ?_
        refine J_aload_n dX5_numberTurned_26 rfl ?_
        obtain ⟨w27, hF27, y27, rfl, hl27, hh27⟩ := hK8.2 2 (.inl ((-2147483648), 2147483647)) rfl
        dsimp only at hl27 hh27
        refine J_get jf_X5_40 dX5_numberTurned_27 hO8 hF27 ?_
        refine J_imul dX5_numberTurned_30 ?_
        refine J_iload dX5_numberTurned_31 rfl ?_
        refine J_iload_n dX5_numberTurned_33 rfl ?_
        refine J_icmp_ge (tgt := 42) dX5_numberTurned_34 (by decide) (fun c34 => ?_) (fun c34 => ?_)
        · refine J_aload_n dX5_numberTurned_42 rfl ?_
          obtain ⟨w43, hF43, y43, rfl, hl43, hh43⟩ := hK8.2 0 (.inl ((-2147483648), 2147483647)) rfl
          dsimp only at hl43 hh43
          refine J_get jf_X5_19 dX5_numberTurned_43 hO8 hF43 ?_
          refine J_iload_n dX5_numberTurned_46 rfl ?_
          refine J_iload dX5_numberTurned_47 rfl ?_
          refine J_callS3 moX0_turned jw_ml_X5_87 jw_st_X0_turned dX5_numberTurned_49 (w_X0_turned (d - 1) _ _ _ _ (by omega)    ) (by omega) (Nat.zero_le _) (Nat.zero_le _) (Nat.le_of_ble_eq_true rfl) (fun r49 V49 h49 => ?_)
          obtain ⟨⟨y49, rfl, hl49, hh49⟩, hE49⟩ := h49
          have hE49 := hE49.symm
          subst hE49
          refine J_iadd dX5_numberTurned_52 ?_
          refine J_istore_n dX5_numberTurned_53 rfl (by decide) ?_
          refine J_iinc dX5_numberTurned_54 rfl j_inc1 rfl (by decide) ?_
          refine J_goto (tgt := 5) dX5_numberTurned_57 (by decide) ?_
          refine J.mask [true, true, true, true, true, false] ?_
          exact ih5  _ _ hW he ha0  (jdec_up (Int32.not_le.mp c11) (by assumption))
        · refine J_iload dX5_numberTurned_37 rfl ?_
          refine J_goto (tgt := 52) dX5_numberTurned_39 (by decide) ?_
          refine J_iadd dX5_numberTurned_52 ?_
          refine J_istore_n dX5_numberTurned_53 rfl (by decide) ?_
          refine J_iinc dX5_numberTurned_54 rfl j_inc1 rfl (by decide) ?_
          refine J_goto (tgt := 5) dX5_numberTurned_57 (by decide) ?_
          refine J.mask [true, true, true, true, true, false] ?_
          exact ih5  _ _ hW he ha0  (jdec_up (Int32.not_le.mp c11) (by assumption))
  refine J.mask [true, true, true, true, true, false] ?_
  exact L5 _  _ _ hW he ha0  (Nat.lt_succ_self _)
set_option maxRecDepth 100000 in
set_option maxHeartbeats 4000000 in
theorem w_X5_init {tS : jTS} (d : Nat) (V0 : jH) (q : Nat) (x1 : Int32) (x2 : Int32) (x3 : Int32)  (hd : 1 ≤ d) (hW : WTx (fun a => False ∨ a = q) V0) (hq : V0 q = some (.inr (3, [.int 0, .int 0, .int 0, .null, .null, .null, .int 0])))   : jTot tS mX5_init d [.ref q, .int x1, .int x2, .int x3] V0 3 20006 (fun r V => r = none ∧ WTx (fun _ => False) V ∧ jeff [.inr 3] V0 V ∧ jis V (.inr 3) q) := by
  refine jTot.of_J [some (.ref q), some (.int x1), some (.int x2), some (.int x3), none] moX5_init (Nat.le_of_ble_eq_true rfl) rfl ?_
  have he : jeff [.inr 3] V0 V0 := jeff.refl _ _
  refine J_aload_n dX5_init_0 rfl ?_
  refine J_objInit jw_ml_X5_3 jw_oi2 jw_oi3 dX5_init_1 (by omega) (Nat.le_of_ble_eq_true rfl) ?_
  refine J_aload_n dX5_init_4 rfl ?_
  refine J_bipush (v := 6) dX5_init_5 (by decide) ?_
  refine Jc_newa (atype := .int) (t := 11) (B := 6) (x := .inl (fun _ => 0)) jw_ac_int rfl (fun _ h => by cases h) (by decide) dX5_init_7 (by decide) (by decide) (by decide) (fun _ _ => rfl) (fun hN => jok_zI rfl (by decide) (by decide) (fun m h => by cases h <;> rfl) hN) (by decide) (by decide) hW (fun b7 V7 hn7 hb7 hk7 hW hx7 => ?_)
  have hz7 := he.1.none hn7
  have he := he.trans (hx7.sub (jsub_of rfl))
  have hq := hk7 _ _ hq
  refine Jc_putF jf_X5_9 jt_X5_5 rfl (fun _ h => by cases h; rfl) dX5_init_9 hq rfl rfl (Nat.le_of_ble_eq_true rfl) (fun _ h => by cases h) hW (fun V9 hq hW hx9 hB9 => ?_)
  have he := he.trans (hx9.sub (jsub_of rfl))
  have hb7 := hb7.mono hx9.1
  refine J_aload_n dX5_init_12 rfl ?_
  refine J_iconst (v := 0) dX5_init_13 (by decide) ?_
  refine Jc_put jf_X5_15 jt_X5_6 dX5_init_14 hq rfl rfl (Nat.le_of_ble_eq_true rfl) (fun _ h => by cases h) hW (fun V14 hq hW hx14 hB14 => ?_)
  have he := he.trans (hx14.sub (jsub_of rfl))
  have hb7 := hb7.mono hx14.1
  refine J_aload_n dX5_init_17 rfl ?_
  refine J_iload_n dX5_init_18 rfl ?_
  refine Jc_putF jf_X5_19 jt_X5_0 rfl (fun _ h => by cases h; rfl) dX5_init_19 hq rfl rfl (Nat.le_of_ble_eq_true rfl) (fun _ h => by cases h) hW (fun V19 hq hW hx19 hB19 => ?_)
  have he := he.trans (hx19.sub (jsub_of rfl))
  have hb7 := hb7.mono hx19.1
  refine J_aload_n dX5_init_22 rfl ?_
  refine J_iconst (v := 0) dX5_init_23 (by decide) ?_
  refine J_iload_n dX5_init_24 rfl ?_
  refine J_bipush (v := 6) dX5_init_25 (by decide) ?_
  refine J_mmin jw_ml_X5_22 dX5_init_27 (by omega) (Nat.le_of_ble_eq_true rfl) ?_
  refine J_mmax jw_ml_X5_28 dX5_init_30 (by omega) (Nat.le_of_ble_eq_true rfl) ?_
  refine Jc_putF jf_X5_31 jt_X5_1 rfl (fun _ h => by cases h; rfl) dX5_init_33 hq rfl rfl (Nat.le_of_ble_eq_true rfl) (fun _ h => by cases h) hW (fun V33 hq hW hx33 hB33 => ?_)
  have he := he.trans (hx33.sub (jsub_of rfl))
  have hb7 := hb7.mono hx33.1
  refine J_aload_n dX5_init_36 rfl ?_
  refine J_iload_n dX5_init_37 rfl ?_
  refine J_callS1 moX0_directions jw_ml_X5_34 jw_st_X0_directions dX5_init_38 (w_X0_directions (d - 1) _ _ (by omega)    ) (by omega) (Nat.zero_le _) (Nat.zero_le _) (Nat.le_of_ble_eq_true rfl) (fun r38 V38 h38 => ?_)
  obtain ⟨⟨y38, rfl, hl38, hh38⟩, hE38⟩ := h38
  have hE38 := hE38.symm
  subst hE38
  refine Jc_putF jf_X5_40 jt_X5_2 rfl (fun _ h => by cases h; rfl) dX5_init_41 hq rfl rfl (Nat.le_of_ble_eq_true rfl) (fun _ h => by cases h) hW (fun V41 hq hW hx41 hB41 => ?_)
  have he := he.trans (hx41.sub (jsub_of rfl))
  have hb7 := hb7.mono hx41.1
  refine J_iconst (v := 0) dX5_init_44 (by decide) ?_
  refine J_iload_n dX5_init_45 rfl ?_
  refine J_sipush (v := 10000) dX5_init_46 (by decide) ?_
  refine J_mmin jw_ml_X5_22 dX5_init_49 (by omega) (Nat.le_of_ble_eq_true rfl) ?_
  refine J_mmax jw_ml_X5_28 dX5_init_52 (by omega) (Nat.le_of_ble_eq_true rfl) ?_
  refine J_istore dX5_init_55 rfl (by decide) ?_
  refine J_aload_n dX5_init_57 rfl ?_
  refine J_iload dX5_init_58 rfl ?_
  refine Jc_newa (atype := .byte) (t := 3) (B := 10000) (x := .inl (fun _ => 0)) jw_ac_byte rfl (fun _ h => by cases h) (by decide) dX5_init_60 (jroom_lo _) (jroom_hi _) (by decide) (fun _ _ => rfl) (fun hN => jok_zI rfl (by decide) (by decide) (fun m h => by cases h <;> rfl) hN) (by decide) (by decide) hW (fun b60 V60 hn60 hb60 hk60 hW hx60 => ?_)
  have hz60 := he.1.none hn60
  have he := he.trans (hx60.sub (jsub_of rfl))
  have hb7 := hb7.mono hx60.1
  have hq := hk60 _ _ hq
  refine Jc_putF jf_X5_43 jt_X5_3 rfl (fun _ h => by cases h; rfl) dX5_init_62 hq rfl rfl (Nat.le_of_ble_eq_true rfl) (fun _ h => by cases h) hW (fun V62 hq hW hx62 hB62 => ?_)
  have he := he.trans (hx62.sub (jsub_of rfl))
  have hb7 := hb7.mono hx62.1
  have hb60 := hb60.mono hx62.1
  refine J_aload_n dX5_init_65 rfl ?_
  refine J_iload dX5_init_66 rfl ?_
  refine Jc_newa (atype := .int) (t := 10) (B := 10000) (x := .inl (fun _ => 0)) jw_ac_int rfl (fun _ h => by cases h) (by decide) dX5_init_68 (jroom_lo _) (jroom_hi _) (by decide) (fun _ _ => rfl) (fun hN => jok_zI rfl (by decide) (by decide) (fun m h => by cases h <;> rfl) hN) (by decide) (by decide) hW (fun b68 V68 hn68 hb68 hk68 hW hx68 => ?_)
  have hz68 := he.1.none hn68
  have he := he.trans (hx68.sub (jsub_of rfl))
  have hb7 := hb7.mono hx68.1
  have hb60 := hb60.mono hx68.1
  have hq := hk68 _ _ hq
  refine Jc_putF jf_X5_47 jt_X5_4 rfl (fun _ h => by cases h; rfl) dX5_init_70 hq rfl rfl (Nat.le_of_ble_eq_true rfl) (fun _ h => by cases h) hW (fun V70 hq hW hx70 hB70 => ?_)
  have he := he.trans (hx70.sub (jsub_of rfl))
  have hb7 := hb7.mono hx70.1
  have hb60 := hb60.mono hx70.1
  have hb68 := hb68.mono hx70.1
  have hls := jst_lo x2
  have hhs := jst_hi x2
  exact J_ret (r := none) dX5_init_73 ⟨rfl, rfl⟩ (⟨rfl, hW.fin hq (jokO_cons ⟨_, rfl, (j_rng _).1, (j_rng _).2⟩ (jokO_cons ⟨_, rfl, by first | decide | assumption | omega, by first | decide | assumption | omega⟩ (jokO_cons ⟨_, rfl, (j_rng _).1, (j_rng _).2⟩ (jokO_cons ⟨_, rfl, hb60⟩ (jokO_cons ⟨_, rfl, hb68⟩ (jokO_cons ⟨_, rfl, hb7⟩ (jokO_cons ⟨_, rfl, by first | decide | assumption | omega, by first | decide | assumption | omega⟩ (jokO_nil)))))))), he, ⟨_, hq, rfl⟩⟩)
