set_option maxRecDepth 100000 in
set_option maxHeartbeats 8000000 in
theorem w_X7_digest {tS : jTS} (d : Nat) (V0 : jH) (a0 : Nat) (hd : 2 ≤ d) (hW : WT V0) (ha0 : jis V0 (.inr 5) a0) : jTot tS mX7_digest d [.ref a0] V0 0 0 (fun r V => rL r V ∧ V = V0) := by
  refine jTot.of_J [some (.ref a0), none, none, none, none] moX7_digest (Nat.le_of_ble_eq_true rfl) rfl ?_
  have he : jeff [] V0 V0 := jeff.refl _ _
  refine J_ldc2 jw_k_X7_233 dX7_digest_0 ?_
  refine J_lstore_n dX7_digest_3 rfl (by decide) ?_
  refine Jz_iconst 0 dX7_digest_4 (by decide) (fun y4 he4 => ?_)
  refine J_istore_n dX7_digest_5 rfl (by decide) ?_
  have L6 : ∀ (N : Nat) (i1n6 : Int64) (i3n6 : Int32), (0 ≤ i3n6.toInt) → (300 - i3n6.toInt).toNat < N → J tS mX7_digest d 6 [some (.ref a0), some (.long i1n6), none, some (.int i3n6), none] [] V0 0 0 (fun r V => rL r V ∧ V = V0) := by
    intro N
    induction N with
    | zero => intro i1n6 i3n6  hi3 hm; exact absurd hm (Nat.not_lt_zero _)
    | succ N ih =>
      intro i1n6 i3n6  hi3 hm
      have ih6 := ih
      have hri3 := j_rng i3n6
      refine J_iload_n dX7_digest_6 rfl ?_
      refine Jz_iconst 4 dX7_digest_7 (by decide) (fun y7 he7 => ?_)
      refine Jz_icmp_ge (tgt := 30) jEq.rf he7 dX7_digest_8 (by decide) (fun c8 => ?_) (fun c8 => ?_)
      · refine Jz_iconst 0 dX7_digest_30 (by decide) (fun y30 he30 => ?_)
        refine J_istore_n dX7_digest_31 rfl (by decide) ?_
        have L32 : ∀ (N : Nat) (i1n32 : Int64) (i3n32 : Int32), (0 ≤ i3n32.toInt) → (300 - i3n32.toInt).toNat < N → J tS mX7_digest d 32 [some (.ref a0), some (.long i1n32), none, some (.int i3n32), none] [] V0 0 0 (fun r V => rL r V ∧ V = V0) := by
          intro N
          induction N with
          | zero => intro i1n32 i3n32  hi3 hm; exact absurd hm (Nat.not_lt_zero _)
          | succ N ih =>
            intro i1n32 i3n32  hi3 hm
            have ih32 := ih
            have hri3 := j_rng i3n32
            refine J_iload_n dX7_digest_32 rfl ?_
            refine J_aload_n dX7_digest_33 rfl ?_
            obtain ⟨fs34, hO34, hK34⟩ := WT_obj hW id ha0
            obtain ⟨w34, hF34, y34, rfl, hl34, hh34⟩ := hK34.2 0 (.inl (0, 16)) rfl
            dsimp only at hl34 hh34
            refine J_get jf_X7_102 dX7_digest_34 hO34 hF34 ?_
            refine Jz_icmp_ge (tgt := 100) jEq.rf jEq.rf dX7_digest_37 (by decide) (fun c37 => ?_) (fun c37 => ?_)
            · refine Jz_iconst 0 dX7_digest_100 (by decide) (fun y100 he100 => ?_)
              refine J_istore_n dX7_digest_101 rfl (by decide) ?_
              have L102 : ∀ (N : Nat) (i1n102 : Int64) (i3n102 : Int32), (0 ≤ i3n102.toInt) → (300 - i3n102.toInt).toNat < N → J tS mX7_digest d 102 [some (.ref a0), some (.long i1n102), none, some (.int i3n102), none] [] V0 0 0 (fun r V => rL r V ∧ V = V0) := by
                intro N
                induction N with
                | zero => intro i1n102 i3n102  hi3 hm; exact absurd hm (Nat.not_lt_zero _)
                | succ N ih =>
                  intro i1n102 i3n102  hi3 hm
                  have ih102 := ih
                  have hri3 := j_rng i3n102
                  refine J_iload_n dX7_digest_102 rfl ?_
                  refine J_aload_n dX7_digest_103 rfl ?_
                  obtain ⟨w104, hF104, y104, rfl, hl104, hh104⟩ := hK34.2 23 (.inl (2, 6)) rfl
                  dsimp only at hl104 hh104
                  refine J_get jf_X7_73 dX7_digest_104 hO34 hF104 ?_
                  refine J_aload_n dX7_digest_107 rfl ?_
                  obtain ⟨w108, hF108, y108, rfl, hl108, hh108⟩ := hK34.2 24 (.inl (2, 6)) rfl
                  dsimp only at hl108 hh108
                  refine J_get jf_X7_77 dX7_digest_108 hO34 hF108 ?_
                  refine Jz_imulB 6 jEq.rf jEq.rf dX7_digest_111 (by omega) (by omega) (by omega) (by omega) (fun y111 he111 hf111 => ?_)
                  refine Jz_icmp_ge (tgt := 143) jEq.rf jEq.rf dX7_digest_112 (by decide) (fun c112 => ?_) (fun c112 => ?_)
                  · refine J_lload_n dX7_digest_143 rfl ?_
                    exact J_ret (r := some (.long _)) dX7_digest_144 ⟨rfl, rfl⟩ (⟨⟨_, rfl⟩, rfl⟩)
                  · refine J_aload_n dX7_digest_115 rfl ?_
                    obtain ⟨w116, hF116, b116, rfl, hb116⟩ := hK34.2 25 (.inr (some (.inl 43))) rfl
                    refine J_get jf_X7_80 dX7_digest_116 hO34 hF116 ?_
                    refine J_iload_n dX7_digest_119 rfl ?_
                    obtain ⟨n120, f120, hA120, hN120, hM120, hv120⟩ := WT_arrI (r := (0, 1)) hW id rfl hb116
                    obtain rfl := hM120 36 rfl
                    clear hN120 hM120
                    refine Jz_zaldr (r := (0, 1)) jEq.rf dX7_digest_120 hA120 rfl hv120 (by omega) (by omega) (fun y120 hl120 hh120 => ?_)
                    dsimp only at hl120 hh120
                    refine Jz_if_eq (tgt := 135) jEq.rf dX7_digest_121 (by decide) (fun c121 => ?_) (fun c121 => ?_)
                    · refine J_lload_n dX7_digest_135 rfl ?_
                      refine J_lstore_n dX7_digest_136 rfl (by decide) ?_
                      refine Jz_iinc 1 dX7_digest_137 rfl rfl (by decide) jEq.rf (by decide) (by omega) (by omega) (fun y137 he137 => ?_)
                      refine J_goto (tgt := 102) dX7_digest_140 (by decide) ?_
                      refine J.mask [true, true, false, true, false] ?_
                      exact ih102  i1n102 y137  (by (try simp only [he137.eq, true_and, and_true]) <;> omega) (by (try simp only [he137.eq, true_and, and_true]) <;> omega)
                    · refine J_ldc2 jw_k_X7_235 dX7_digest_124 ?_
                      refine J_lload_n dX7_digest_127 rfl ?_
                      refine J_lmul dX7_digest_128 ?_
                      refine J_iload_n dX7_digest_129 rfl ?_
                      refine J_i2l dX7_digest_130 rfl ?_
                      refine J_ladd dX7_digest_131 ?_
                      refine J_goto (tgt := 136) dX7_digest_132 (by decide) ?_
                      refine J_lstore_n dX7_digest_136 rfl (by decide) ?_
                      refine Jz_iinc 1 dX7_digest_137 rfl rfl (by decide) jEq.rf (by decide) (by omega) (by omega) (fun y137 he137 => ?_)
                      refine J_goto (tgt := 102) dX7_digest_140 (by decide) ?_
                      refine J.mask [true, true, false, true, false] ?_
                      exact ih102  (((31 : Int64) * i1n102) + i3n102.toInt64) y137  (by (try simp only [he137.eq, true_and, and_true]) <;> omega) (by (try simp only [he137.eq, true_and, and_true]) <;> omega)
              refine J.mask [true, true, false, true, false] ?_
              exact L102 _  i1n32 y100    (by (try simp only [he100.eq, true_and, and_true]) <;> omega) (Nat.lt_succ_self _)
            · refine J_ldc2 jw_k_X7_235 dX7_digest_40 ?_
              refine J_lload_n dX7_digest_43 rfl ?_
              refine J_lmul dX7_digest_44 ?_
              refine J_aload_n dX7_digest_45 rfl ?_
              obtain ⟨w46, hF46, b46, rfl, hb46⟩ := hK34.2 1 (.inr (some (.inl 14))) rfl
              refine J_get jf_X7_7 dX7_digest_46 hO34 hF46 ?_
              refine J_iload_n dX7_digest_49 rfl ?_
              obtain ⟨n50, f50, hA50, hN50, hM50, hv50⟩ := WT_arrI (r := (0, 3)) hW id rfl hb46
              obtain rfl := hM50 16 rfl
              clear hN50 hM50
              refine Jz_ialdr (r := (0, 3)) jEq.rf dX7_digest_50 hA50 rfl hv50 (by omega) (by omega) (fun y50 hl50 hh50 => ?_)
              dsimp only at hl50 hh50
              refine J_i2l dX7_digest_51 rfl ?_
              refine J_ladd dX7_digest_52 ?_
              refine J_lstore_n dX7_digest_53 rfl (by decide) ?_
              refine Jz_iconst 0 dX7_digest_54 (by decide) (fun y54 he54 => ?_)
              refine J_istore dX7_digest_55 rfl (by decide) ?_
              have L57 : ∀ (N : Nat) (i1n57 : Int64) (i4n57 : Int32), (0 ≤ i4n57.toInt) → (300 - i4n57.toInt).toNat < N → J tS mX7_digest d 57 [some (.ref a0), some (.long i1n57), none, some (.int i3n32), some (.int i4n57)] [] V0 0 0 (fun r V => rL r V ∧ V = V0) := by
                intro N
                induction N with
                | zero => intro i1n57 i4n57  hi4 hm; exact absurd hm (Nat.not_lt_zero _)
                | succ N ih =>
                  intro i1n57 i4n57  hi4 hm
                  have ih57 := ih
                  have hri4 := j_rng i4n57
                  refine J_iload dX7_digest_57 rfl ?_
                  refine J_aload_n dX7_digest_59 rfl ?_
                  obtain ⟨w60, hF60, b60, rfl, hb60⟩ := hK34.2 2 (.inr (some (.inl 15))) rfl
                  refine J_get jf_X7_13 dX7_digest_60 hO34 hF60 ?_
                  refine J_iload_n dX7_digest_63 rfl ?_
                  obtain ⟨n64, f64, hA64, hN64, hM64, hv64⟩ := WT_arrI (r := (0, 60)) hW id rfl hb60
                  obtain rfl := hM64 16 rfl
                  clear hN64 hM64
                  refine Jz_ialdr (r := (0, 60)) jEq.rf dX7_digest_64 hA64 rfl hv64 (by omega) (by omega) (fun y64 hl64 hh64 => ?_)
                  dsimp only at hl64 hh64
                  refine Jz_icmp_ge (tgt := 94) jEq.rf jEq.rf dX7_digest_65 (by decide) (fun c65 => ?_) (fun c65 => ?_)
                  · refine Jz_iinc 1 dX7_digest_94 rfl rfl (by decide) jEq.rf (by decide) (by omega) (by omega) (fun y94 he94 => ?_)
                    refine J_goto (tgt := 32) dX7_digest_97 (by decide) ?_
                    refine J.mask [true, true, false, true, false] ?_
                    exact ih32  i1n57 y94  (by (try simp only [he94.eq, true_and, and_true]) <;> omega) (by (try simp only [he94.eq, true_and, and_true]) <;> omega)
                  · refine J_ldc2 jw_k_X7_235 dX7_digest_68 ?_
                    refine J_lload_n dX7_digest_71 rfl ?_
                    refine J_lmul dX7_digest_72 ?_
                    refine J_aload_n dX7_digest_73 rfl ?_
                    obtain ⟨w74, hF74, b74, rfl, hb74⟩ := hK34.2 3 (.inr (some (.inl 16))) rfl
                    refine J_get jf_X7_16 dX7_digest_74 hO34 hF74 ?_
                    refine Jz_bipush 60 dX7_digest_77 (by decide) (fun y77 he77 => ?_)
                    refine J_iload_n dX7_digest_79 rfl ?_
                    refine Jz_imul he77 jEq.rf dX7_digest_80 (by omega) (by omega) (fun y80 he80 => ?_)
                    refine J_iload dX7_digest_81 rfl ?_
                    refine Jz_iadd he80 jEq.rf dX7_digest_83 (by omega) (by omega) (fun y83 he83 => ?_)
                    obtain ⟨n84, f84, hA84, hN84, hM84, hv84⟩ := WT_arrI (r := (-2147483648, 2147483647)) hW id rfl hb74
                    obtain rfl := hM84 960 rfl
                    clear hN84 hM84
                    refine Jz_ialdw he83 dX7_digest_84 hA84 rfl (by omega) (by omega) (fun y84 => ?_)
                    refine J_i2l dX7_digest_85 rfl ?_
                    refine J_ladd dX7_digest_86 ?_
                    refine J_lstore_n dX7_digest_87 rfl (by decide) ?_
                    refine Jz_iinc 1 dX7_digest_88 rfl rfl (by decide) jEq.rf (by decide) (by omega) (by omega) (fun y88 he88 => ?_)
                    refine J_goto (tgt := 57) dX7_digest_91 (by decide) ?_
                    refine J.mask [true, true, false, true, true] ?_
                    exact ih57  (((31 : Int64) * i1n57) + y84.toInt64) y88  (by (try simp only [he88.eq, true_and, and_true]) <;> omega) (by (try simp only [he88.eq, true_and, and_true]) <;> omega)
              refine J.mask [true, true, false, true, true] ?_
              exact L57 _  (((31 : Int64) * i1n32) + y50.toInt64) y54    (by (try simp only [he54.eq, true_and, and_true]) <;> omega) (Nat.lt_succ_self _)
        refine J.mask [true, true, false, true, false] ?_
        exact L32 _  i1n6 y30    (by (try simp only [he30.eq, true_and, and_true]) <;> omega) (Nat.lt_succ_self _)
      · refine J_ldc2 jw_k_X7_235 dX7_digest_11 ?_
        refine J_lload_n dX7_digest_14 rfl ?_
        refine J_lmul dX7_digest_15 ?_
        refine J_aload_n dX7_digest_16 rfl ?_
        refine J_iload_n dX7_digest_17 rfl ?_
        refine Jw_callV1 (q9 := (RX7, TX7, 34)) moX7_count jw_ml_X7_237 jw_im_X7_count jw_se_X7_count ha0 rfl rfl dX7_digest_18 (w_X7_count (d - 1) _ a0 i3n6 (by omega) hW  ha0) (by omega) (Nat.zero_le _) (Nat.zero_le _) (Nat.le_of_ble_eq_true rfl) (fun r18 V18 h18 => ?_)
        obtain ⟨⟨y18, rfl, hl18, hh18⟩, hE18⟩ := h18
        have hE18 := hE18.symm
        subst hE18
        clear hl18 hh18
        refine J_i2l dX7_digest_21 rfl ?_
        refine J_ladd dX7_digest_22 ?_
        refine J_lstore_n dX7_digest_23 rfl (by decide) ?_
        refine Jz_iinc 1 dX7_digest_24 rfl rfl (by decide) jEq.rf (by decide) (by omega) (by omega) (fun y24 he24 => ?_)
        refine J_goto (tgt := 6) dX7_digest_27 (by decide) ?_
        refine J.mask [true, true, false, true, false] ?_
        exact ih6  (((31 : Int64) * i1n6) + y18.toInt64) y24  (by (try simp only [he24.eq, true_and, and_true]) <;> omega) (by (try simp only [he24.eq, true_and, and_true]) <;> omega)
  refine J.mask [true, true, false, true, false] ?_
  exact L6 _  (107 : Int64) y4    (by (try simp only [he4.eq, true_and, and_true]) <;> omega) (Nat.lt_succ_self _)
set_option maxRecDepth 100000 in
set_option maxHeartbeats 8000000 in
theorem w_X7_power {tS : jTS} (d : Nat) (V0 : jH) (x0 : Int32) (x1 : Int32) (hd : 0 ≤ d)  (hp0 : 1 ≤ x0.toInt) (hp1 : x0.toInt ≤ 6) (hp2 : 0 ≤ x1.toInt) (hp3 : x1.toInt ≤ 7) : jTot tS mX7_power d [.int x0, .int x1] V0 0 0 (fun r V => (fun r _ => ∃ y : Int32, r = some (.int y) ∧ ((-2147483648) ≤ y.toInt) ∧ (y.toInt ≤ 2147483647) ∧ (y.toInt = jpw x0.toInt x1.toInt.toNat)) r V ∧ V = V0) := by
  refine jTot.of_J [some (.int x0), some (.int x1), none, none] moX7_power (Nat.le_of_ble_eq_true rfl) rfl ?_
  have hrx0 := j_rng x0
  have hrx1 := j_rng x1
  refine Jz_iconst 1 dX7_power_0 (by decide) (fun y0 he0 => ?_)
  refine J_istore_n dX7_power_1 rfl (by decide) ?_
  refine Jz_iconst 0 dX7_power_2 (by decide) (fun y2 he2 => ?_)
  refine J_istore_n dX7_power_3 rfl (by decide) ?_
  have L4 : ∀ (N : Nat) (i2n4 : Int32) (i3n4 : Int32), (0 ≤ i3n4.toInt ∧ i3n4.toInt ≤ x1.toInt) → (i2n4.toInt = jpw x0.toInt i3n4.toInt.toNat) → (300 - i3n4.toInt).toNat < N → J tS mX7_power d 4 [some (.int x0), some (.int x1), some (.int i2n4), some (.int i3n4)] [] V0 0 0 (fun r V => (fun r _ => ∃ y : Int32, r = some (.int y) ∧ ((-2147483648) ≤ y.toInt) ∧ (y.toInt ≤ 2147483647) ∧ (y.toInt = jpw x0.toInt x1.toInt.toNat)) r V ∧ V = V0) := by
    intro N
    induction N with
    | zero => intro i2n4 i3n4  hi3 hpw hm; exact absurd hm (Nat.not_lt_zero _)
    | succ N ih =>
      intro i2n4 i3n4  hi3 hpw hm
      have ih4 := ih
      have hri3 := j_rng i3n4
      refine J_iload_n dX7_power_4 rfl ?_
      refine J_iload_n dX7_power_5 rfl ?_
      refine Jz_icmp_ge (tgt := 19) jEq.rf jEq.rf dX7_power_6 (by decide) (fun c6 => ?_) (fun c6 => ?_)
      · refine J_iload_n dX7_power_19 rfl ?_
        exact J_ret (r := some (.int _)) dX7_power_20 ⟨rfl, _, rfl, rfl⟩ (⟨⟨_, rfl, (j_rng _).1, (j_rng _).2, (by rw [hpw, show i3n4.toInt.toNat = x1.toInt.toNat by omega])⟩, rfl⟩)
      · refine J_iload_n dX7_power_9 rfl ?_
        refine J_iload_n dX7_power_10 rfl ?_
        have hq1 : i2n4.toInt * x0.toInt = jpw x0.toInt (i3n4.toInt.toNat + 1) := by rw [hpw, Int.mul_comm]; rfl
        have hq2 := jpw_le6 (d := x0.toInt) (by omega) (by omega) (n := i3n4.toInt.toNat + 1) (by omega)
        have hq3 := jpw_pos (d := x0.toInt) (by omega) (i3n4.toInt.toNat + 1)
        refine Jz_imul jEq.rf jEq.rf dX7_power_11 (by omega) (by omega) (fun y11 he11 => ?_)
        refine J_istore_n dX7_power_12 rfl (by decide) ?_
        refine Jz_iinc 1 dX7_power_13 rfl rfl (by decide) jEq.rf (by decide) (by omega) (by omega) (fun y13 he13 => ?_)
        refine J_goto (tgt := 4) dX7_power_16 (by decide) ?_
        refine J.mask [true, true, true, true] ?_
        exact ih4  y11 y13  (by (try simp only [he11.eq, he13.eq, true_and, and_true]) <;> omega) (by rw [he11.eq, hq1, he13.eq, show (i3n4.toInt + 1).toNat = i3n4.toInt.toNat + 1 by omega]) (by (try simp only [he11.eq, he13.eq, true_and, and_true]) <;> omega)
  refine J.mask [true, true, true, true] ?_
  exact L4 _  y0 y2    (by (try simp only [he0.eq, he2.eq, true_and, and_true]) <;> omega) (by rw [he0.eq, he2.eq]; rfl) (Nat.lt_succ_self _)
set_option maxRecDepth 100000 in
set_option maxHeartbeats 8000000 in
theorem w_X7_rowOf {tS : jTS} (d : Nat) (V0 : jH) (a0 : Nat) (x1 : Int32) (x2 : Int32) (x3 : Int32) (v22 : Int32) (ra4 : Nat) (hd : 1 ≤ d) (hW : WT V0) (ha0 : jis V0 (.inr 5) a0) (hf_v22 : jfI V0 a0 5 22 v22) (hr_ra4 : jfR V0 a0 5 4 ra4) (hp0 : 0 ≤ x2.toInt) (hp1 : x2.toInt ≤ 7) (hp2 : 0 ≤ x3.toInt) : jTot tS mX7_rowOf d [.ref a0, .int x1, .int x2, .int x3] V0 0 0 (fun r V => (jPost [.inr 5, .inl 17] V0 rV) r V ∧ (∃ F : Nat → Int32, V ra4 = some (.inl (17, 120, .inl F)) ∧ ∀ k : Nat, (k : Int) < x2.toInt → 0 ≤ (F k).toInt ∧ (F k).toInt < jdir x1.toInt) ∧ jkc 5 [0, 23, 24] V0 V ∧ (∃ v5 : Int32, jfI V a0 5 5 v5 ∧ (v5.toInt = x2.toInt)) ∧ (∃ w22 : Int32, jfI V a0 5 22 w22 ∧ (w22.toInt = v22.toInt))) := by
  refine jTot.of_J [some (.ref a0), some (.int x1), some (.int x2), some (.int x3), none, none] moX7_rowOf (Nat.le_of_ble_eq_true rfl) rfl ?_
  have hrx1 := j_rng x1
  have hrx2 := j_rng x2
  have hrx3 := j_rng x3
  have he : jeff [.inr 5, .inl 17] V0 V0 := jeff.refl _ _
  have hkp : jkc 5 [0, 23, 24] V0 V0 := jkc.rf
  obtain ⟨fs_a0, hO_a0, hK_a0⟩ := WT_obj hW id ha0
  have hF_v22 := hf_v22.get hO_a0
  have hrv22 : (-2147483648) ≤ v22.toInt ∧ v22.toInt ≤ 2147483647 := jok_rngI hK_a0 rfl hF_v22
  have hF_ra4 := hr_ra4.get hO_a0
  obtain ⟨w_ra4, hFq_ra4, b_ra4, hbq_ra4, hb_ra4⟩ := hK_a0.2 4 (.inr (some (.inl 17))) rfl
  cases hF_ra4.symm.trans (hFq_ra4.trans (congrArg some hbq_ra4))
  refine J_aload_n dX7_rowOf_0 rfl ?_
  refine J_iload_n dX7_rowOf_1 rfl ?_
  refine Jz_putI hO_a0 hW id rfl jf_X7_109 jt_X7_5 jEq.rf dX7_rowOf_2 (by omega) (by omega) (fun _ _ => ⟨rfl, rfl⟩) (fun V2 fs2 hW hx2 hO2 hS2 hT2 hB2 => ?_)
  have hK2 : jokO _ (jFs 5) fs2 := hW _ _ id hO2
  have hF2_22 := (hT2 22 (by decide)).trans hF_v22
  have hF2_4 := (hT2 4 (by decide)).trans hF_ra4
  have he := he.trans (hx2.sub (jsub_of rfl))
  have hkp := hkp.trans (jkc.put hO_a0 hO2 hT2 hB2 (by decide))
  have ha0 := ha0.mono hx2.1
  have hb_ra4 := hb_ra4.mono hx2.1
  refine J_iload_n dX7_rowOf_5 rfl ?_
  refine J_istore dX7_rowOf_6 rfl (by decide) ?_
  refine J_iload_n dX7_rowOf_8 rfl ?_
  refine Jz_iconst 1 dX7_rowOf_9 (by decide) (fun y9 he9 => ?_)
  refine Jz_isub jEq.rf he9 dX7_rowOf_10 (by omega) (by omega) (fun y10 he10 => ?_)
  refine J_istore dX7_rowOf_11 rfl (by decide) ?_
  obtain ⟨n13tra4, f13tra4, hA13tra4, hN13tra4, hM13tra4, hv13tra4⟩ := WT_arrI (r := (-2147483648, 2147483647)) hW id rfl hb_ra4
  obtain rfl := hM13tra4 120 rfl
  clear hN13tra4 hM13tra4
  have L13 : ∀ (N : Nat) (V : jH) (i4n13 : Int32) (i5n13 : Int32) (F17n13 : Nat → Int32), WT V → jeff [.inr 5, .inl 17] V0 V → (jis V (.inr 5) a0) → (jis V (.inl 17) ra4) → (jkc 5 [0, 23, 24] V0 V) → (V a0 = some (.inr (5, fs2))) → (jokO V (jFs 5) fs2) → (V ra4 = some (.inl (17, 120, .inl F17n13))) → (-1 ≤ i5n13.toInt ∧ i5n13.toInt < x2.toInt) → (0 ≤ i4n13.toInt) → (∀ k : Nat, i5n13.toInt < (k : Int) → (k : Int) < x2.toInt → 0 ≤ (F17n13 k).toInt ∧ (F17n13 k).toInt < jdir x1.toInt) → (i5n13.toInt + 5).toNat < N → J tS mX7_rowOf d 13 [some (.ref a0), some (.int x1), some (.int x2), some (.int x3), some (.int i4n13), some (.int i5n13)] [] V 0 0 (fun r V => (jPost [.inr 5, .inl 17] V0 rV) r V ∧ (∃ F : Nat → Int32, V ra4 = some (.inl (17, 120, .inl F)) ∧ ∀ k : Nat, (k : Int) < x2.toInt → 0 ≤ (F k).toInt ∧ (F k).toInt < jdir x1.toInt) ∧ jkc 5 [0, 23, 24] V0 V ∧ (∃ v5 : Int32, jfI V a0 5 5 v5 ∧ (v5.toInt = x2.toInt)) ∧ (∃ w22 : Int32, jfI V a0 5 22 w22 ∧ (w22.toInt = v22.toInt))) := by
    intro N
    induction N with
    | zero => intro V i4n13 i5n13 F17n13 hW he ha0 hb_ra4 hkp hO2 hK2 hAF17n13 hi5 hl4 hc hm; exact absurd hm (Nat.not_lt_zero _)
    | succ N ih =>
      intro V i4n13 i5n13 F17n13 hW he ha0 hb_ra4 hkp hO2 hK2 hAF17n13 hi5 hl4 hc hm
      have ih13 := ih
      have hri5 := j_rng i5n13
      obtain ⟨hNF17n13, hvF17n13⟩ := WT_rngI (r := ((-2147483648), 2147483647)) hW id rfl hAF17n13
      clear hNF17n13
      refine J_iload dX7_rowOf_13 rfl ?_
      refine Jz_if_lt (tgt := 47) jEq.rf dX7_rowOf_15 (by decide) (fun c15 => ?_) (fun c15 => ?_)
      · exact J_ret (r := none) dX7_rowOf_47 ⟨rfl, rfl⟩ (⟨⟨hW, he, rfl⟩, ⟨F17n13, hAF17n13, fun k hk => hc k (by omega) hk⟩, hkp, ⟨_, ⟨_, hO2, hS2⟩, (by omega)⟩, ⟨_, ⟨_, hO2, hF2_22⟩, (by omega)⟩⟩)
      · refine J_aload_n dX7_rowOf_18 rfl ?_
        refine J_get jf_X7_19 dX7_rowOf_19 hO2 hF2_4 ?_
        refine J_iload dX7_rowOf_22 rfl ?_
        refine J_iload dX7_rowOf_24 rfl ?_
        refine J_iload_n dX7_rowOf_26 rfl ?_
        refine J_callS1 moX7_directions jw_ml_X7_133 jw_st_X7_directions dX7_rowOf_27 (w_X7_directions (d - 1) _ x1 (by omega)   ) (by omega) (Nat.zero_le _) (Nat.zero_le _) (Nat.le_of_ble_eq_true rfl) (fun r27 V27 h27 => ?_)
        obtain ⟨⟨y27, rfl, hl27, hh27, hP27_0⟩, hE27⟩ := h27
        have hE27 := hE27.symm
        subst hE27
        have hz27 : jEq y27.toInt (jdir (x1.toInt)) := hP27_0
        simp only [hP27_0] at hl27 hh27
        clear hP27_0
        refine Jz_irem jEq.rf hz27 dX7_rowOf_30 (by omega) (by omega) (fun y30 he30 hf30 => ?_)
        refine Jz_iast (r := ((-2147483648), 2147483647)) jEq.rf jEq.rf hW id dX7_rowOf_31 hAF17n13 rfl rfl (by omega) (by omega) (j_rng _).1 (j_rng _).2 (fun V31 G31 hW hx31 hA31 hp31 ho31 => ?_)
        obtain ⟨hN31, hv31⟩ := WT_rngI (r := ((-2147483648), 2147483647)) hW id rfl hA31
        clear hN31
        have he := he.trans (hx31.sub (jsub_of rfl))
        have hkp := hkp.trans (jkc.of hx31 (jnot_of rfl))
        have ha0 := ha0.mono hx31.1
        have hb_ra4 := hb_ra4.mono hx31.1
        have hO2 := hx31.2 _ _ hO2 (jnot_of rfl)
        have hK2 := hK2.mono hx31.1
        refine J_iload dX7_rowOf_32 rfl ?_
        refine J_iload_n dX7_rowOf_34 rfl ?_
        refine J_callS1 moX7_directions jw_ml_X7_133 jw_st_X7_directions dX7_rowOf_35 (w_X7_directions (d - 1) _ x1 (by omega)   ) (by omega) (Nat.zero_le _) (Nat.zero_le _) (Nat.le_of_ble_eq_true rfl) (fun r35 V35 h35 => ?_)
        obtain ⟨⟨y35, rfl, hl35, hh35, hP35_0⟩, hE35⟩ := h35
        have hE35 := hE35.symm
        subst hE35
        have hz35 : jEq y35.toInt (jdir (x1.toInt)) := hP35_0
        simp only [hP35_0] at hl35 hh35
        clear hP35_0
        refine Jz_idiv jEq.rf hz35 dX7_rowOf_38 (by omega) (by omega) (fun y38 he38 hf38 => ?_)
        refine J_istore dX7_rowOf_39 rfl (by decide) ?_
        refine Jz_iinc (-1) dX7_rowOf_41 rfl rfl (by decide) jEq.rf (by decide) (by omega) (by omega) (fun y41 he41 => ?_)
        refine J_goto (tgt := 13) dX7_rowOf_44 (by decide) ?_
        refine J.mask [true, true, true, true, true, true] ?_
        exact ih13 _ y38 y41 G31 hW he ha0 hb_ra4 hkp hO2 hK2 hA31 (by (try simp only [he41.eq, true_and, and_true]) <;> omega) (by (try simp only [he41.eq, true_and, and_true]) <;> omega) (fun k h1 h2 => by rw [he41.eq] at h1; exact (Nat.decEq k i5n13.toInt.toNat).byCases (fun hq => by rw [hq, hp31]; omega) (fun hq => by rw [ho31 k hq]; exact hc k (by omega) h2)) (by (try simp only [he41.eq, true_and, and_true]) <;> omega)
  refine J.mask [true, true, true, true, true, true] ?_
  exact L13 _ _ x3 y10 f13tra4 hW he ha0 hb_ra4 hkp hO2 hK2 hA13tra4 (by (try simp only [he10.eq, true_and, and_true]) <;> omega) (by (try simp only [he10.eq, true_and, and_true]) <;> omega) (fun k h1 h2 => by rw [he10.eq] at h1; omega) (Nat.lt_succ_self _)
set_option maxRecDepth 100000 in
set_option maxHeartbeats 8000000 in
theorem w_X7_meets {tS : jTS} (d : Nat) (V0 : jH) (a0 : Nat) (x1 : Int32) (v22 : Int32) (rb : Nat) (NN : Nat) (F42 : Nat → Int32) (hd : 0 ≤ d) (hW : WT V0) (ha0 : jis V0 (.inr 5) a0) (hf_v22 : jfI V0 a0 5 22 v22) (hr_rb : jfR V0 a0 5 20 rb) (ha_F42 : V0 rb = some (.inl (42, 10000, .inl F42))) (hp0 : NN ≤ 10000) (hp1 : 0 ≤ x1.toInt) (hp2 : x1.toInt < (NN : Int)) (hp3 : v22.toInt = (jcn 0 F42 NN : Int)) : jTot tS mX7_meets d [.ref a0, .int x1] V0 0 0 (fun r V => (jPost [.inl 42, .inl 29, .inr 5] V0 rV) r V ∧ (∃ (G : Nat → Int32) (v : Int32), V rb = some (.inl (42, 10000, .inl G)) ∧ jfI V a0 5 22 v ∧ v.toInt = (jcn 0 G NN : Int)) ∧ jkc 5 [0, 23, 24] V0 V) := by
  refine jTot.of_J [some (.ref a0), some (.int x1)] moX7_meets (Nat.le_of_ble_eq_true rfl) rfl ?_
  have hrx1 := j_rng x1
  have he : jeff [.inl 42, .inl 29, .inr 5] V0 V0 := jeff.refl _ _
  have hkp : jkc 5 [0, 23, 24] V0 V0 := jkc.rf
  obtain ⟨fs_a0, hO_a0, hK_a0⟩ := WT_obj hW id ha0
  have hF_v22 := hf_v22.get hO_a0
  have hrv22 : (-2147483648) ≤ v22.toInt ∧ v22.toInt ≤ 2147483647 := jok_rngI hK_a0 rfl hF_v22
  have hF_rb := hr_rb.get hO_a0
  obtain ⟨w_rb, hFq_rb, b_rb, hbq_rb, hb_rb⟩ := hK_a0.2 20 (.inr (some (.inl 42))) rfl
  cases hF_rb.symm.trans (hFq_rb.trans (congrArg some hbq_rb))
  obtain ⟨hN_F42, hv_F42⟩ := WT_rngI (r := (0, 1)) hW id rfl ha_F42
  clear hN_F42
  refine J_aload_n dX7_meets_0 rfl ?_
  refine J_get jf_X7_67 dX7_meets_1 hO_a0 hF_rb ?_
  refine J_iload_n dX7_meets_4 rfl ?_
  refine Jz_zald (r := (0, 1)) jEq.rf dX7_meets_5 ha_F42 rfl hv_F42 (by omega) (by omega) (fun y5 hf5 hl5 hh5 => ?_)
  dsimp only at hl5 hh5
  have hlt : y5.toInt = 0 → jcn 0 F42 NN < NN := fun h => jcn_lt (k := x1.toInt.toNat) (by rw [hf5]; exact h) NN (by omega)
  refine Jz_if_ne (tgt := 36) jEq.rf dX7_meets_6 (by decide) (fun c6 => ?_) (fun c6 => ?_)
  · exact J_ret (r := none) dX7_meets_36 ⟨rfl, rfl⟩ (⟨⟨hW, he, rfl⟩, ⟨F42, v22, ha_F42, ⟨_, hO_a0, hF_v22⟩, by first | exact hp3 | (rw [hup]; have hh9 := he32.eq; omega)⟩, hkp⟩)
  · refine J_aload_n dX7_meets_9 rfl ?_
    refine J_get jf_X7_67 dX7_meets_10 hO_a0 hF_rb ?_
    refine J_iload_n dX7_meets_13 rfl ?_
    refine Jz_iconst 1 dX7_meets_14 (by decide) (fun y14 he14 => ?_)
    have hlt := hlt (by omega)
    have hz9 : (F42 x1.toInt.toNat).toInt = 0 := by rw [hf5]; omega
    refine Jz_zast (r := (0, 1)) jEq.rf he14 hW id dX7_meets_15 ha_F42 rfl rfl (by omega) (by omega) (by omega) (by omega) (fun _ h => vp_nar_b (by omega) (by omega)) (fun V15 G15 hW hx15 hA15 hp15 ho15 => ?_)
    obtain ⟨hN15, hv15⟩ := WT_rngI (r := (0, 1)) hW id rfl hA15
    clear hN15
    have he := he.trans (hx15.sub (jsub_of rfl))
    have hkp := hkp.trans (jkc.of hx15 (jnot_of rfl))
    have ha0 := ha0.mono hx15.1
    have hb_rb := hb_rb.mono hx15.1
    have hO_a0 := hx15.2 _ _ hO_a0 (jnot_of rfl)
    have hK_a0 := hK_a0.mono hx15.1
    have hup := jcn_up (c := 0) hz9 (by rw [hp15, he14.eq]; omega) ho15 NN (by omega)
    refine J_aload_n dX7_meets_16 rfl ?_
    obtain ⟨w17, hF17, b17, rfl, hb17⟩ := hK_a0.2 21 (.inr (some (.inl 29))) rfl
    refine J_get jf_X7_70 dX7_meets_17 hO_a0 hF17 ?_
    refine J_aload_n dX7_meets_20 rfl ?_
    refine J_get jf_X7_205 dX7_meets_21 hO_a0 hF_v22 ?_
    refine J_iload_n dX7_meets_24 rfl ?_
    obtain ⟨n25, f25, hA25, hN25, hM25, hv25⟩ := WT_arrI (r := (0, 9999)) hW id rfl hb17
    obtain rfl := hM25 10000 rfl
    clear hN25 hM25
    refine Jz_iastw (r := (0, 9999)) jEq.rf jEq.rf hW id dX7_meets_25 hA25 rfl rfl (by omega) (by omega) (by omega) (by omega) (fun V25 hW hx25 => ?_)
    have he := he.trans (hx25.sub (jsub_of rfl))
    have hkp := hkp.trans (jkc.of hx25 (jnot_of rfl))
    have ha0 := ha0.mono hx25.1
    have hb_rb := hb_rb.mono hx25.1
    have hb17 := hb17.mono hx25.1
    have hO_a0 := hx25.2 _ _ hO_a0 (jnot_of rfl)
    have hK_a0 := hK_a0.mono hx25.1
    have hA15 := hx25.2 _ _ hA15 (jnot_of rfl)
    refine J_aload_n dX7_meets_26 rfl ?_
    refine J_dup dX7_meets_27 rfl ?_
    refine J_get jf_X7_205 dX7_meets_28 hO_a0 hF_v22 ?_
    refine Jz_iconst 1 dX7_meets_31 (by decide) (fun y31 he31 => ?_)
    refine Jz_iadd jEq.rf he31 dX7_meets_32 (by omega) (by omega) (fun y32 he32 => ?_)
    refine Jz_putI hO_a0 hW id rfl jf_X7_205 jt_X7_22 he32 dX7_meets_33 (by omega) (by omega) (fun _ _ => ⟨rfl, rfl⟩) (fun V33 fs33 hW hx33 hO33 hS33 hT33 hB33 => ?_)
    have hK33 : jokO _ (jFs 5) fs33 := hW _ _ id hO33
    have hF33_20 := (hT33 20 (by decide)).trans hF_rb
    have hF33_21 := (hT33 21 (by decide)).trans hF17
    have he := he.trans (hx33.sub (jsub_of rfl))
    have hkp := hkp.trans (jkc.put hO_a0 hO33 hT33 hB33 (by decide))
    have ha0 := ha0.mono hx33.1
    have hb_rb := hb_rb.mono hx33.1
    have hb17 := hb17.mono hx33.1
    have hA15 := hx33.2 _ _ hA15 (jnot_of rfl)
    exact J_ret (r := none) dX7_meets_36 ⟨rfl, rfl⟩ (⟨⟨hW, he, rfl⟩, ⟨G15, y32, hA15, ⟨_, hO33, hS33⟩, by first | exact hp3 | (rw [hup]; have hh9 := he32.eq; omega)⟩, hkp⟩)
set_option maxRecDepth 100000 in
set_option maxHeartbeats 8000000 in
theorem w_X7_turnsAll {tS : jTS} (d : Nat) (V0 : jH) (a0 : Nat) (x1 : Int32) (x2 : Int32) (x3 : Int32) (v22 : Int32) (rb : Nat) (NN : Nat) (F42 : Nat → Int32) (hd : 2 ≤ d) (hW : WT V0) (ha0 : jis V0 (.inr 5) a0) (hf_v22 : jfI V0 a0 5 22 v22) (hr_rb : jfR V0 a0 5 20 rb) (ha_F42 : V0 rb = some (.inl (42, 10000, .inl F42))) (hp0 : NN ≤ 10000) (hp1 : 0 ≤ x1.toInt) (hp2 : x1.toInt ≤ 3) (hp3 : 1 ≤ x2.toInt) (hp4 : x2.toInt ≤ 6) (hp5 : 0 ≤ x3.toInt) (hp6 : (NN : Int) = jpw (jdir x1.toInt) x2.toInt.toNat) (hp7 : v22.toInt = (jcn 0 F42 NN : Int)) : jTot tS mX7_turnsAll d [.ref a0, .int x1, .int x2, .int x3] V0 0 0 (fun r V => (jPost [.inr 5, .inl 17, .inl 18, .inl 19, .inl 20, .inl 42, .inl 29] V0 rV) r V ∧ (∃ (G : Nat → Int32) (v : Int32), V rb = some (.inl (42, 10000, .inl G)) ∧ jfI V a0 5 22 v ∧ v.toInt = (jcn 0 G NN : Int)) ∧ jkc 5 [0, 23, 24] V0 V) := by
  refine jTot.of_J [some (.ref a0), some (.int x1), some (.int x2), some (.int x3), none, none, none, none] moX7_turnsAll (Nat.le_of_ble_eq_true rfl) rfl ?_
  have hrx1 := j_rng x1
  have hrx2 := j_rng x2
  have hrx3 := j_rng x3
  have he : jeff [.inr 5, .inl 17, .inl 18, .inl 19, .inl 20, .inl 42, .inl 29] V0 V0 := jeff.refl _ _
  have hkp : jkc 5 [0, 23, 24] V0 V0 := jkc.rf
  obtain ⟨fs_a0, hO_a0, hK_a0⟩ := WT_obj hW id ha0
  have hF_v22 := hf_v22.get hO_a0
  have hrv22 : (-2147483648) ≤ v22.toInt ∧ v22.toInt ≤ 2147483647 := jok_rngI hK_a0 rfl hF_v22
  have hF_rb := hr_rb.get hO_a0
  obtain ⟨w_rb, hFq_rb, b_rb, hbq_rb, hb_rb⟩ := hK_a0.2 20 (.inr (some (.inl 42))) rfl
  cases hF_rb.symm.trans (hFq_rb.trans (congrArg some hbq_rb))
  obtain ⟨hN_F42, hv_F42⟩ := WT_rngI (r := (0, 1)) hW id rfl ha_F42
  clear hN_F42
  refine Jz_iconst 0 dX7_turnsAll_0 (by decide) (fun y0 he0 => ?_)
  refine J_istore dX7_turnsAll_1 rfl (by decide) ?_
  have L3 : ∀ (N : Nat) (V : jH) (i4n3 : Int32) (gs3a0 : List Value) (g22n3 : Int32) (F42n3 : Nat → Int32), WT V → jeff [.inr 5, .inl 17, .inl 18, .inl 19, .inl 20, .inl 42, .inl 29] V0 V → (jis V (.inr 5) a0) → (jis V (.inl 42) rb) → (jkc 5 [0, 23, 24] V0 V) → (V a0 = some (.inr (5, gs3a0))) → (gs3a0[22]? = some (.int g22n3)) → (gs3a0[20]? = some (.ref rb)) → (V rb = some (.inl (42, 10000, .inl F42n3))) → (0 ≤ i4n3.toInt) → (g22n3.toInt = (jcn 0 F42n3 NN : Int)) → (300 - i4n3.toInt).toNat < N → J tS mX7_turnsAll d 3 [some (.ref a0), some (.int x1), some (.int x2), some (.int x3), some (.int i4n3), none, none, none] [] V 0 0 (fun r V => (jPost [.inr 5, .inl 17, .inl 18, .inl 19, .inl 20, .inl 42, .inl 29] V0 rV) r V ∧ (∃ (G : Nat → Int32) (v : Int32), V rb = some (.inl (42, 10000, .inl G)) ∧ jfI V a0 5 22 v ∧ v.toInt = (jcn 0 G NN : Int)) ∧ jkc 5 [0, 23, 24] V0 V) := by
    intro N
    induction N with
    | zero => intro V i4n3 gs3a0 g22n3 F42n3 hW he ha0 hb_rb hkp hOgs3a0 hFgs3a0_22 hFgs3a0_20 hAF42n3 hi4 hq4 hm; exact absurd hm (Nat.not_lt_zero _)
    | succ N ih =>
      intro V i4n3 gs3a0 g22n3 F42n3 hW he ha0 hb_rb hkp hOgs3a0 hFgs3a0_22 hFgs3a0_20 hAF42n3 hi4 hq4 hm
      have ih3 := ih
      have hri4 := j_rng i4n3
      have hKgs3a0 : jokO V (jFs 5) gs3a0 := hW _ _ id hOgs3a0
      have hrgg22n3 : (-2147483648) ≤ g22n3.toInt ∧ g22n3.toInt ≤ 2147483647 := jok_rngI hKgs3a0 rfl hFgs3a0_22
      obtain ⟨hNF42n3, hvF42n3⟩ := WT_rngI (r := (0, 1)) hW id rfl hAF42n3
      clear hNF42n3
      refine J_iload dX7_turnsAll_3 rfl ?_
      refine J_iload_n dX7_turnsAll_5 rfl ?_
      refine Jz_icmp_ge (tgt := 136) jEq.rf jEq.rf dX7_turnsAll_6 (by decide) (fun c6 => ?_) (fun c6 => ?_)
      · exact J_ret (r := none) dX7_turnsAll_136 ⟨rfl, rfl⟩ (⟨⟨hW, he, rfl⟩, ⟨F42n3, g22n3, hAF42n3, ⟨_, hOgs3a0, hFgs3a0_22⟩, hq4⟩, hkp⟩)
      · refine Jz_iconst 0 dX7_turnsAll_9 (by decide) (fun y9 he9 => ?_)
        refine J_istore dX7_turnsAll_10 rfl (by decide) ?_
        have L12 : ∀ (N : Nat) (V : jH) (i5n12 : Int32) (gs12a0 : List Value) (g22n12 : Int32) (F42n12 : Nat → Int32), WT V → jeff [.inr 5, .inl 17, .inl 18, .inl 19, .inl 20, .inl 42, .inl 29] V0 V → (jis V (.inr 5) a0) → (jis V (.inl 42) rb) → (jkc 5 [0, 23, 24] V0 V) → (V a0 = some (.inr (5, gs12a0))) → (gs12a0[22]? = some (.int g22n12)) → (gs12a0[20]? = some (.ref rb)) → (V rb = some (.inl (42, 10000, .inl F42n12))) → (0 ≤ i5n12.toInt) → (g22n12.toInt = (jcn 0 F42n12 NN : Int)) → (300 - i5n12.toInt).toNat < N → J tS mX7_turnsAll d 12 [some (.ref a0), some (.int x1), some (.int x2), some (.int x3), some (.int i4n3), some (.int i5n12), none, none] [] V 0 0 (fun r V => (jPost [.inr 5, .inl 17, .inl 18, .inl 19, .inl 20, .inl 42, .inl 29] V0 rV) r V ∧ (∃ (G : Nat → Int32) (v : Int32), V rb = some (.inl (42, 10000, .inl G)) ∧ jfI V a0 5 22 v ∧ v.toInt = (jcn 0 G NN : Int)) ∧ jkc 5 [0, 23, 24] V0 V) := by
          intro N
          induction N with
          | zero => intro V i5n12 gs12a0 g22n12 F42n12 hW he ha0 hb_rb hkp hOgs12a0 hFgs12a0_22 hFgs12a0_20 hAF42n12 hi5 hq5 hm; exact absurd hm (Nat.not_lt_zero _)
          | succ N ih =>
            intro V i5n12 gs12a0 g22n12 F42n12 hW he ha0 hb_rb hkp hOgs12a0 hFgs12a0_22 hFgs12a0_20 hAF42n12 hi5 hq5 hm
            have ih12 := ih
            have hri5 := j_rng i5n12
            have hKgs12a0 : jokO V (jFs 5) gs12a0 := hW _ _ id hOgs12a0
            have hrgg22n12 : (-2147483648) ≤ g22n12.toInt ∧ g22n12.toInt ≤ 2147483647 := jok_rngI hKgs12a0 rfl hFgs12a0_22
            obtain ⟨hNF42n12, hvF42n12⟩ := WT_rngI (r := (0, 1)) hW id rfl hAF42n12
            clear hNF42n12
            refine J_iload dX7_turnsAll_12 rfl ?_
            refine J_iload_n dX7_turnsAll_14 rfl ?_
            refine J_callS1 moX7_turns jw_ml_X7_143 jw_st_X7_turns dX7_turnsAll_15 (w_X7_turns (d - 1) _ x1 (by omega)   ) (by omega) (Nat.zero_le _) (Nat.zero_le _) (Nat.le_of_ble_eq_true rfl) (fun r15 V15 h15 => ?_)
            obtain ⟨⟨y15, rfl, hl15, hh15, hP15_0⟩, hE15⟩ := h15
            have hE15 := hE15.symm
            subst hE15
            have hz15 : jEq y15.toInt (jtur (x1.toInt)) := hP15_0
            simp only [hP15_0] at hl15 hh15
            clear hP15_0
            refine Jz_icmp_ge (tgt := 130) jEq.rf hz15 dX7_turnsAll_18 (by decide) (fun c18 => ?_) (fun c18 => ?_)
            · refine Jz_iinc 1 dX7_turnsAll_130 rfl rfl (by decide) jEq.rf (by decide) (by omega) (by omega) (fun y130 he130 => ?_)
              refine J_goto (tgt := 3) dX7_turnsAll_133 (by decide) ?_
              refine J.mask [true, true, true, true, true, false, false, false] ?_
              exact ih3 _ y130 gs12a0 g22n12 F42n12 hW he ha0 hb_rb hkp hOgs12a0 hFgs12a0_22 hFgs12a0_20 hAF42n12 (by (try simp only [he130.eq, true_and, and_true]) <;> omega) (by (try simp only [he130.eq, true_and, and_true]) <;> omega) (by (try simp only [he130.eq, true_and, and_true]) <;> omega)
            · refine J_aload_n dX7_turnsAll_21 rfl ?_
              refine J_iload_n dX7_turnsAll_22 rfl ?_
              refine J_iload_n dX7_turnsAll_23 rfl ?_
              refine J_iload_n dX7_turnsAll_24 rfl ?_
              obtain ⟨w25p4, hF25p4, b25p4, rfl, hb25p4⟩ := hKgs12a0.2 4 (.inr (some (.inl 17))) rfl
              refine Jw_callV3 (q9 := (RX7, TX7, 34)) moX7_rowOf jw_ml_X7_198 jw_im_X7_rowOf jw_se_X7_rowOf ha0 rfl rfl dX7_turnsAll_25 (w_X7_rowOf (d - 1) _ a0 x1 x2 x3 g22n12 b25p4 (by omega) hW  ha0 ⟨_, hOgs12a0, hFgs12a0_22⟩ ⟨_, hOgs12a0, hF25p4⟩ (by omega) (by omega) (by omega)) (by omega) (Nat.zero_le _) (Nat.zero_le _) (Nat.le_of_ble_eq_true rfl) (fun r25 V25 h25 => ?_)
              obtain ⟨h25, hX25_0, hX25_1, ⟨fv25_0, hfv25_0, hfp25_0⟩, ⟨fv25_1, hfv25_1, hfp25_1⟩⟩ := h25
              obtain ⟨hW, hx25, hr25⟩ := h25
              have he := he.trans (hx25.sub (jsub_of rfl))
              have hkp := hkp.trans hX25_1
              have ha0 := ha0.mono hx25.1
              have hb_rb := hb_rb.mono hx25.1
              have hb25p4 := hb25p4.mono hx25.1
              obtain ⟨fs25a0, hOfs25a0, hRfs25a0⟩ := hx25.1.keep hOgs12a0
              have hKfs25a0 : jokO _ (jFs 5) fs25a0 := hW _ _ id hOfs25a0
              have hFfs25a0_20 := hRfs25a0 _ _ hFgs12a0_20
              have hFfs25a0_4 := hRfs25a0 _ _ hF25p4
              have hAF42n12 := hx25.2 _ _ hAF42n12 (jnot_of rfl)
              cases hr25
              have hFv25_0 := hfv25_0.get hOfs25a0
              have hzf25_0 : jEq fv25_0.toInt ((x2.toInt)) := hfp25_0
              clear hfp25_0
              have hFv25_1 := hfv25_1.get hOfs25a0
              have hzf25_1 : jEq fv25_1.toInt ((g22n12.toInt)) := hfp25_1
              clear hfp25_1
              obtain ⟨F17x, hA17x, hc17⟩ := hX25_0
              obtain ⟨hN_F17x, hv_F17x⟩ := WT_rngI (r := ((-2147483648), 2147483647)) hW id rfl hA17x
              clear hN_F17x
              refine Jz_iconst 0 dX7_turnsAll_28 (by decide) (fun y28 he28 => ?_)
              refine J_istore dX7_turnsAll_29 rfl (by decide) ?_
              refine Jz_iconst 0 dX7_turnsAll_31 (by decide) (fun y31 he31 => ?_)
              refine J_istore dX7_turnsAll_32 rfl (by decide) ?_
              have L34 : ∀ (N : Nat) (V : jH) (i6n34 : Int32) (i7n34 : Int32) (F17n34 : Nat → Int32), WT V → jeff [.inr 5, .inl 17, .inl 18, .inl 19, .inl 20, .inl 42, .inl 29] V0 V → (jis V (.inr 5) a0) → (jis V (.inl 42) rb) → (jis V (.inl 17) b25p4) → (jkc 5 [0, 23, 24] V0 V) → (V a0 = some (.inr (5, fs25a0))) → (jokO V (jFs 5) fs25a0) → (V b25p4 = some (.inl (17, 120, .inl F17n34))) → (V rb = some (.inl (42, 10000, .inl F42n12))) → (0 ≤ i7n34.toInt ∧ i7n34.toInt ≤ x2.toInt) → (0 ≤ i6n34.toInt ∧ i6n34.toInt < jpw (jdir x1.toInt) i7n34.toInt.toNat) → (∀ k : Nat, (k : Int) < x2.toInt → 0 ≤ (F17n34 k).toInt ∧ (F17n34 k).toInt < jdir x1.toInt) → (300 - i7n34.toInt).toNat < N → J tS mX7_turnsAll d 34 [some (.ref a0), some (.int x1), some (.int x2), some (.int x3), some (.int i4n3), some (.int i5n12), some (.int i6n34), some (.int i7n34)] [] V 0 0 (fun r V => (jPost [.inr 5, .inl 17, .inl 18, .inl 19, .inl 20, .inl 42, .inl 29] V0 rV) r V ∧ (∃ (G : Nat → Int32) (v : Int32), V rb = some (.inl (42, 10000, .inl G)) ∧ jfI V a0 5 22 v ∧ v.toInt = (jcn 0 G NN : Int)) ∧ jkc 5 [0, 23, 24] V0 V) := by
                intro N
                induction N with
                | zero => intro V i6n34 i7n34 F17n34 hW he ha0 hb_rb hb25p4 hkp hOfs25a0 hKfs25a0 hAF17n34 hAF42n12 hi7 hto hc hm; exact absurd hm (Nat.not_lt_zero _)
                | succ N ih =>
                  intro V i6n34 i7n34 F17n34 hW he ha0 hb_rb hb25p4 hkp hOfs25a0 hKfs25a0 hAF17n34 hAF42n12 hi7 hto hc hm
                  have ih34 := ih
                  have hri7 := j_rng i7n34
                  obtain ⟨hNF17n34, hvF17n34⟩ := WT_rngI (r := ((-2147483648), 2147483647)) hW id rfl hAF17n34
                  clear hNF17n34
                  refine J_iload dX7_turnsAll_34 rfl ?_
                  refine J_iload_n dX7_turnsAll_36 rfl ?_
                  refine Jz_icmp_ge (tgt := 100) jEq.rf jEq.rf dX7_turnsAll_37 (by decide) (fun c37 => ?_) (fun c37 => ?_)
                  · refine J_aload_n dX7_turnsAll_100 rfl ?_
                    refine J_get jf_X7_67 dX7_turnsAll_101 hOfs25a0 hFfs25a0_20 ?_
                    refine J_iload dX7_turnsAll_104 rfl ?_
                    have hjn : jpw (jdir x1.toInt) i7n34.toInt.toNat = (NN : Int) := by rw [show i7n34.toInt.toNat = x2.toInt.toNat by omega]; exact hp6.symm
                    refine Jz_zald (r := (0, 1)) jEq.rf dX7_turnsAll_106 hAF42n12 rfl hvF42n12 (by omega) (by omega) (fun y106 hf106 hl106 hh106 => ?_)
                    dsimp only at hl106 hh106
                    refine Jz_if_ne (tgt := 124) jEq.rf dX7_turnsAll_107 (by decide) (fun c107 => ?_) (fun c107 => ?_)
                    · refine Jz_iinc 1 dX7_turnsAll_124 rfl rfl (by decide) jEq.rf (by decide) (by omega) (by omega) (fun y124 he124 => ?_)
                      refine J_goto (tgt := 12) dX7_turnsAll_127 (by decide) ?_
                      refine J.mask [true, true, true, true, true, true, false, false] ?_
                      exact ih12 _ y124 fs25a0 fv25_1 F42n12 hW he ha0 hb_rb hkp hOfs25a0 hFv25_1 hFfs25a0_20 hAF42n12 (by (try simp only [he124.eq, hzf25_1.eq, true_and, and_true]) <;> omega) (by (try simp only [he124.eq, hzf25_1.eq, true_and, and_true]) <;> omega) (by (try simp only [he124.eq, hzf25_1.eq, true_and, and_true]) <;> omega)
                    · refine J_aload_n dX7_turnsAll_110 rfl ?_
                      refine J_iload_n dX7_turnsAll_111 rfl ?_
                      refine Jw_callV1 (q9 := (RX7, TX7, 34)) moX7_goes jw_ml_X7_122 jw_im_X7_goes jw_se_X7_goes ha0 rfl rfl dX7_turnsAll_112 (w_X7_goes (d - 1) _ a0 x1 (by omega) hW  ha0) (by omega) (Nat.zero_le _) (Nat.zero_le _) (Nat.le_of_ble_eq_true rfl) (fun r112 V112 h112 => ?_)
                      obtain ⟨hW, hx112, hr112⟩ := h112
                      have he := he.trans (hx112.sub (jsub_of rfl))
                      have hkp := hkp.trans (jkc.of hx112 (jnot_of rfl))
                      have ha0 := ha0.mono hx112.1
                      have hb_rb := hb_rb.mono hx112.1
                      have hb25p4 := hb25p4.mono hx112.1
                      have hOfs25a0 := hx112.2 _ _ hOfs25a0 (jnot_of rfl)
                      have hKfs25a0 := hKfs25a0.mono hx112.1
                      have hAF17n34 := hx112.2 _ _ hAF17n34 (jnot_of rfl)
                      have hAF42n12 := hx112.2 _ _ hAF42n12 (jnot_of rfl)
                      obtain ⟨y112, rfl, hl112, hh112⟩ := hr112
                      refine Jz_if_eq (tgt := 124) jEq.rf dX7_turnsAll_115 (by decide) (fun c115 => ?_) (fun c115 => ?_)
                      · refine Jz_iinc 1 dX7_turnsAll_124 rfl rfl (by decide) jEq.rf (by decide) (by omega) (by omega) (fun y124 he124 => ?_)
                        refine J_goto (tgt := 12) dX7_turnsAll_127 (by decide) ?_
                        refine J.mask [true, true, true, true, true, true, false, false] ?_
                        exact ih12 _ y124 fs25a0 fv25_1 F42n12 hW he ha0 hb_rb hkp hOfs25a0 hFv25_1 hFfs25a0_20 hAF42n12 (by (try simp only [he124.eq, hzf25_1.eq, true_and, and_true]) <;> omega) (by (try simp only [he124.eq, hzf25_1.eq, true_and, and_true]) <;> omega) (by (try simp only [he124.eq, hzf25_1.eq, true_and, and_true]) <;> omega)
                      · refine J_aload_n dX7_turnsAll_118 rfl ?_
                        refine J_iload dX7_turnsAll_119 rfl ?_
                        refine Jw_callV1 (q9 := (RX7, TX7, 34)) moX7_meets jw_ml_X7_208 jw_im_X7_meets jw_se_X7_meets ha0 rfl rfl dX7_turnsAll_121 (w_X7_meets (d - 1) _ a0 i6n34 fv25_1 rb NN F42n12 (by omega) hW  ha0 ⟨_, hOfs25a0, hFv25_1⟩ ⟨_, hOfs25a0, hFfs25a0_20⟩ hAF42n12 (by omega) (by omega) (by omega) (by (try simp only [hzf25_1.eq, true_and, and_true]) <;> omega)) (by omega) (Nat.zero_le _) (Nat.zero_le _) (Nat.le_of_ble_eq_true rfl) (fun r121 V121 h121 => ?_)
                        obtain ⟨h121, hX121_0, hX121_1⟩ := h121
                        obtain ⟨hW, hx121, hr121⟩ := h121
                        have he := he.trans (hx121.sub (jsub_of rfl))
                        have hkp := hkp.trans hX121_1
                        have ha0 := ha0.mono hx121.1
                        have hb_rb := hb_rb.mono hx121.1
                        have hb25p4 := hb25p4.mono hx121.1
                        obtain ⟨fs121a0, hOfs121a0, hRfs121a0⟩ := hx121.1.keep hOfs25a0
                        have hKfs121a0 : jokO _ (jFs 5) fs121a0 := hW _ _ id hOfs121a0
                        have hFfs121a0_20 := hRfs121a0 _ _ hFfs25a0_20
                        have hFfs121a0_4 := hRfs121a0 _ _ hFfs25a0_4
                        have hAF17n34 := hx121.2 _ _ hAF17n34 (jnot_of rfl)
                        cases hr121
                        obtain ⟨G121, v121, hA121, hv121, hc121⟩ := hX121_0
                        have hFv12122 := hv121.get hOfs121a0
                        obtain ⟨hN_G121, hv_G121⟩ := WT_rngI (r := (0, 1)) hW id rfl hA121
                        clear hN_G121
                        refine Jz_iinc 1 dX7_turnsAll_124 rfl rfl (by decide) jEq.rf (by decide) (by omega) (by omega) (fun y124 he124 => ?_)
                        refine J_goto (tgt := 12) dX7_turnsAll_127 (by decide) ?_
                        refine J.mask [true, true, true, true, true, true, false, false] ?_
                        exact ih12 _ y124 fs121a0 v121 G121 hW he ha0 hb_rb hkp hOfs121a0 hFv12122 hFfs121a0_20 hA121 (by (try simp only [he124.eq, true_and, and_true]) <;> omega) (by (try simp only [he124.eq, true_and, and_true]) <;> omega) (by (try simp only [he124.eq, true_and, and_true]) <;> omega)
                  · refine J_aload_n dX7_turnsAll_40 rfl ?_
                    refine J_get jf_X7_19 dX7_turnsAll_41 hOfs25a0 hFfs25a0_4 ?_
                    refine J_iload dX7_turnsAll_44 rfl ?_
                    refine J_iload dX7_turnsAll_46 rfl ?_
                    refine J_iload dX7_turnsAll_48 rfl ?_
                    have K76 : ∀ (t0k76 : Int32), (0 ≤ t0k76.toInt ∧ t0k76.toInt < jdir x1.toInt) → J tS mX7_turnsAll d 76 [some (.ref a0), some (.int x1), some (.int x2), some (.int x3), some (.int i4n3), some (.int i5n12), some (.int i6n34), some (.int i7n34)] [.int t0k76, .int i7n34, .ref b25p4] V 0 0 (fun r V => (jPost [.inr 5, .inl 17, .inl 18, .inl 19, .inl 20, .inl 42, .inl 29] V0 rV) r V ∧ (∃ (G : Nat → Int32) (v : Int32), V rb = some (.inl (42, 10000, .inl G)) ∧ jfI V a0 5 22 v ∧ v.toInt = (jcn 0 G NN : Int)) ∧ jkc 5 [0, 23, 24] V0 V) := by
                      intro  t0k76     hk76_0
                      refine Jz_iast (r := ((-2147483648), 2147483647)) jEq.rf jEq.rf hW id dX7_turnsAll_76 hAF17n34 rfl rfl (by omega) (by omega) (j_rng _).1 (j_rng _).2 (fun V76 G76 hW hx76 hA76 hp76 ho76 => ?_)
                      obtain ⟨hN76, hv76⟩ := WT_rngI (r := ((-2147483648), 2147483647)) hW id rfl hA76
                      clear hN76
                      have he := he.trans (hx76.sub (jsub_of rfl))
                      have hkp := hkp.trans (jkc.of hx76 (jnot_of rfl))
                      have ha0 := ha0.mono hx76.1
                      have hb_rb := hb_rb.mono hx76.1
                      have hb25p4 := hb25p4.mono hx76.1
                      have hOfs25a0 := hx76.2 _ _ hOfs25a0 (jnot_of rfl)
                      have hKfs25a0 := hKfs25a0.mono hx76.1
                      have hAF42n12 := hx76.2 _ _ hAF42n12 (jnot_of rfl)
                      have hc76 : ∀ k : Nat, (k : Int) < x2.toInt → 0 ≤ (G76 k).toInt ∧ (G76 k).toInt < jdir x1.toInt := fun k hk => (Nat.decEq k i7n34.toInt.toNat).byCases (fun hq => by rw [hq, hp76]; omega) (fun hq => by rw [ho76 k hq]; exact hc k hk)
                      refine J_iload_n dX7_turnsAll_77 rfl ?_
                      refine J_callS1 moX7_directions jw_ml_X7_133 jw_st_X7_directions dX7_turnsAll_78 (w_X7_directions (d - 1) _ x1 (by omega)   ) (by omega) (Nat.zero_le _) (Nat.zero_le _) (Nat.le_of_ble_eq_true rfl) (fun r78 V78 h78 => ?_)
                      obtain ⟨⟨y78, rfl, hl78, hh78, hP78_0⟩, hE78⟩ := h78
                      have hE78 := hE78.symm
                      subst hE78
                      have hz78 : jEq y78.toInt (jdir (x1.toInt)) := hP78_0
                      simp only [hP78_0] at hl78 hh78
                      clear hP78_0
                      refine J_iload dX7_turnsAll_81 rfl ?_
                      have hjd := jdir_cases x1.toInt
                      have hmo := jpw_mono (d := jdir x1.toInt) (by omega) (show i7n34.toInt.toNat + 1 ≤ x2.toInt.toNat by omega)
                      have hst := jto_step hto.1 hto.2 (Int.le_refl 0) (show 0 < jdir x1.toInt by omega)
                      have hpe : jdir x1.toInt * jpw (jdir x1.toInt) i7n34.toInt.toNat = jpw (jdir x1.toInt) (i7n34.toInt.toNat + 1) := rfl
                      refine Jz_imul hz78 jEq.rf dX7_turnsAll_83 (by omega) (by omega) (fun y83 he83 => ?_)
                      refine J_aload_n dX7_turnsAll_84 rfl ?_
                      refine J_get jf_X7_19 dX7_turnsAll_85 hOfs25a0 hFfs25a0_4 ?_
                      refine J_iload dX7_turnsAll_88 rfl ?_
                      refine Jz_iald (r := ((-2147483648), 2147483647)) jEq.rf dX7_turnsAll_90 hA76 rfl hv76 (by omega) (by omega) (fun y90 hf90 hl90 hh90 => ?_)
                      dsimp only at hl90 hh90
                      clear hl90 hh90
                      have he90 : jEq y90.toInt (t0k76.toInt) := by rw [← hf90, hp76]; exact jEq.rf
                      have hst := jto_step hto.1 hto.2 (show 0 ≤ (G76 i7n34.toInt.toNat).toInt from (hc76 _ (by omega)).1) (hc76 _ (by omega)).2
                      rw [hp76] at hst
                      refine Jz_iadd he83 he90 dX7_turnsAll_91 (by omega) (by omega) (fun y91 he91 => ?_)
                      refine J_istore dX7_turnsAll_92 rfl (by decide) ?_
                      refine Jz_iinc 1 dX7_turnsAll_94 rfl rfl (by decide) jEq.rf (by decide) (by omega) (by omega) (fun y94 he94 => ?_)
                      refine J_goto (tgt := 34) dX7_turnsAll_97 (by decide) ?_
                      refine J.mask [true, true, true, true, true, true, true, true] ?_
                      exact ih34 _ y91 y94 G76 hW he ha0 hb_rb hb25p4 hkp hOfs25a0 hKfs25a0 hA76 hAF42n12 (by (try simp only [he91.eq, he94.eq, true_and, and_true]) <;> omega) (by rw [he91.eq, he94.eq, show (i7n34.toInt + 1).toNat = i7n34.toInt.toNat + 1 by omega]; exact ⟨hst.2.1, hst.2.2⟩) hc76 (by (try simp only [he91.eq, he94.eq, true_and, and_true]) <;> omega)
                    refine Jz_icmp_ge (tgt := 63) jEq.rf jEq.rf dX7_turnsAll_50 (by decide) (fun c50 => ?_) (fun c50 => ?_)
                    · refine J_iload_n dX7_turnsAll_63 rfl ?_
                      refine J_iload dX7_turnsAll_64 rfl ?_
                      refine J_aload_n dX7_turnsAll_66 rfl ?_
                      refine J_get jf_X7_19 dX7_turnsAll_67 hOfs25a0 hFfs25a0_4 ?_
                      refine J_iload dX7_turnsAll_70 rfl ?_
                      refine Jz_iald (r := ((-2147483648), 2147483647)) jEq.rf dX7_turnsAll_72 hAF17n34 rfl hvF17n34 (by omega) (by omega) (fun y72 hf72 hl72 hh72 => ?_)
                      dsimp only at hl72 hh72
                      clear hl72 hh72
                      have hb72 := hc i7n34.toInt.toNat (by omega)
                      rw [hf72] at hb72
                      refine J_callS3 moX7_turned jw_ml_X7_146 jw_st_X7_turned dX7_turnsAll_73 (w_X7_turned_in (d - 1) _ x1 i5n12 y72 (by omega)   (by omega) (by omega) (by omega) (by omega)) (by omega) (Nat.zero_le _) (Nat.zero_le _) (Nat.le_of_ble_eq_true rfl) (fun r73 V73 h73 => ?_)
                      obtain ⟨⟨y73, rfl, hl73, hh73, hP73_0⟩, hE73⟩ := h73
                      have hE73 := hE73.symm
                      subst hE73
                      exact K76  y73  (by omega)
                    · refine J_aload_n dX7_turnsAll_53 rfl ?_
                      refine J_get jf_X7_19 dX7_turnsAll_54 hOfs25a0 hFfs25a0_4 ?_
                      refine J_iload dX7_turnsAll_57 rfl ?_
                      refine Jz_iald (r := ((-2147483648), 2147483647)) jEq.rf dX7_turnsAll_59 hAF17n34 rfl hvF17n34 (by omega) (by omega) (fun y59 hf59 hl59 hh59 => ?_)
                      dsimp only at hl59 hh59
                      clear hl59 hh59
                      have hb59 := hc i7n34.toInt.toNat (by omega)
                      rw [hf59] at hb59
                      refine J_goto (tgt := 76) dX7_turnsAll_60 (by decide) ?_
                      exact K76  y59  (by omega)
              refine J.mask [true, true, true, true, true, true, true, true] ?_
              exact L34 _ _ y28 y31 F17x hW he ha0 hb_rb hb25p4 hkp hOfs25a0 hKfs25a0 hA17x hAF42n12 (by (try simp only [he28.eq, he31.eq, true_and, and_true]) <;> omega) (by rw [he28.eq, he31.eq]; exact ⟨Int.le_refl _, Int.zero_lt_one⟩) hc17 (Nat.lt_succ_self _)
        refine J.mask [true, true, true, true, true, true, false, false] ?_
        exact L12 _ _ y9 gs3a0 g22n3 F42n3 hW he ha0 hb_rb hkp hOgs3a0 hFgs3a0_22 hFgs3a0_20 hAF42n3 (by (try simp only [he9.eq, true_and, and_true]) <;> omega) (by (try simp only [he9.eq, true_and, and_true]) <;> omega) (Nat.lt_succ_self _)
  refine J.mask [true, true, true, true, true, false, false, false] ?_
  exact L3 _ _ y0 fs_a0 v22 F42 hW he ha0 hb_rb hkp hO_a0 hF_v22 hF_rb ha_F42 (by (try simp only [he0.eq, true_and, and_true]) <;> omega) (by (try simp only [he0.eq, true_and, and_true]) <;> omega) (Nat.lt_succ_self _)
set_option maxRecDepth 100000 in
set_option maxHeartbeats 8000000 in
theorem w_X7_reach {tS : jTS} (d : Nat) (V0 : jH) (a0 : Nat) (x1 : Int32) (x2 : Int32) (hd : 3 ≤ d) (hW : WT V0) (ha0 : jis V0 (.inr 5) a0) : jTot tS mX7_reach d [.ref a0, .int x1, .int x2] V0 0 0 (fun r V => (jPost [.inr 5, .inl 17, .inl 18, .inl 19, .inl 20, .inl 42, .inl 29, .inl 28] V0 (fun r _ => ∃ y : Int32, r = some (.int y) ∧ ((-2147483648) ≤ y.toInt) ∧ (y.toInt ≤ 2147483647))) r V ∧ jkc 5 [0, 23, 24] V0 V) := by
  refine jTot.of_J [some (.ref a0), some (.int x1), some (.int x2), none, none] moX7_reach (Nat.le_of_ble_eq_true rfl) rfl ?_
  have hrx1 := j_rng x1
  have hrx2 := j_rng x2
  have he : jeff [.inr 5, .inl 17, .inl 18, .inl 19, .inl 20, .inl 42, .inl 29, .inl 28] V0 V0 := jeff.refl _ _
  have hkp : jkc 5 [0, 23, 24] V0 V0 := jkc.rf
  refine J_iload_n dX7_reach_0 rfl ?_
  refine J_callS1 moX7_isGround jw_ml_X7_184 jw_st_X7_isGround dX7_reach_1 (w_X7_isGround (d - 1) _ x1 (by omega)   ) (by omega) (Nat.zero_le _) (Nat.zero_le _) (Nat.le_of_ble_eq_true rfl) (fun r1 V1 h1 => ?_)
  obtain ⟨⟨y1, rfl, hl1, hh1, hI1_0⟩, hE1⟩ := h1
  have hE1 := hE1.symm
  subst hE1
  refine Jz_if_eq (tgt := 22) jEq.rf dX7_reach_4 (by decide) (fun c4 => ?_) (fun c4 => ?_)
  · refine Jz_bipush (-2) dX7_reach_22 (by decide) (fun y22 he22 => ?_)
    exact J_ret (r := some (.int _)) dX7_reach_24 ⟨rfl, _, rfl, rfl⟩ (⟨⟨hW, he, ⟨_, rfl, (j_rng _).1, (j_rng _).2⟩⟩, hkp⟩)
  · have q4_0 := hI1_0.of (by omega)
    refine J_iload_n dX7_reach_7 rfl ?_
    refine Jz_iconst 2 dX7_reach_8 (by decide) (fun y8 he8 => ?_)
    refine Jz_icmp_eq (tgt := 22) jEq.rf he8 dX7_reach_9 (by decide) (fun c9 => ?_) (fun c9 => ?_)
    · refine Jz_bipush (-2) dX7_reach_22 (by decide) (fun y22 he22 => ?_)
      exact J_ret (r := some (.int _)) dX7_reach_24 ⟨rfl, _, rfl, rfl⟩ (⟨⟨hW, he, ⟨_, rfl, (j_rng _).1, (j_rng _).2⟩⟩, hkp⟩)
    · refine J_iload_n dX7_reach_12 rfl ?_
      refine Jz_iconst 1 dX7_reach_13 (by decide) (fun y13 he13 => ?_)
      refine Jz_bipush 6 dX7_reach_14 (by decide) (fun y14 he14 => ?_)
      refine J_callS3 moX7_in jw_ml_X7_105 jw_st_X7_in dX7_reach_16 (w_X7_in (d - 1) _ x2 y13 y14 (by omega)   ) (by omega) (Nat.zero_le _) (Nat.zero_le _) (Nat.le_of_ble_eq_true rfl) (fun r16 V16 h16 => ?_)
      obtain ⟨⟨y16, rfl, hl16, hh16, hI16_0, hI16_1⟩, hE16⟩ := h16
      have hE16 := hE16.symm
      subst hE16
      refine Jz_if_ne (tgt := 25) jEq.rf dX7_reach_19 (by decide) (fun c19 => ?_) (fun c19 => ?_)
      · have q19_0 := hI16_0.of (by omega)
        try simp only [he13.eq, he14.eq] at q19_0
        refine J_iload_n dX7_reach_25 rfl ?_
        refine J_callS1 moX7_directions jw_ml_X7_133 jw_st_X7_directions dX7_reach_26 (w_X7_directions (d - 1) _ x1 (by omega)   ) (by omega) (Nat.zero_le _) (Nat.zero_le _) (Nat.le_of_ble_eq_true rfl) (fun r26 V26 h26 => ?_)
        obtain ⟨⟨y26, rfl, hl26, hh26, hP26_0⟩, hE26⟩ := h26
        have hE26 := hE26.symm
        subst hE26
        have hz26 : jEq y26.toInt (jdir (x1.toInt)) := hP26_0
        simp only [hP26_0] at hl26 hh26
        clear hP26_0
        refine J_iload_n dX7_reach_29 rfl ?_
        refine J_callS2 moX7_power jw_ml_X7_195 jw_st_X7_power dX7_reach_30 (w_X7_power (d - 1) _ y26 x2 (by omega)   (by (try simp only [hz26.eq, true_and, and_true]) <;> omega) (by (try simp only [hz26.eq, true_and, and_true]) <;> omega) (by omega) (by omega)) (by omega) (Nat.zero_le _) (Nat.zero_le _) (Nat.le_of_ble_eq_true rfl) (fun r30 V30 h30 => ?_)
        obtain ⟨⟨y30, rfl, hl30, hh30, hP30_0⟩, hE30⟩ := h30
        have hE30 := hE30.symm
        subst hE30
        clear hl30 hh30
        try simp only [hz26.eq] at hP30_0
        have hz30 : jEq y30.toInt (jpw (jdir (x1.toInt)) (x2.toInt).toNat) := hP30_0
        clear hP30_0
        refine J_istore_n dX7_reach_33 rfl (by decide) ?_
        refine J_iload_n dX7_reach_34 rfl ?_
        refine Jz_sipush 10000 dX7_reach_35 (by decide) (fun y35 he35 => ?_)
        refine Jz_icmp_le (tgt := 44) hz30 he35 dX7_reach_38 (by decide) (fun c38 => ?_) (fun c38 => ?_)
        · have hjd := jdir_cases x1.toInt
          have hpp := jpw_pos (d := jdir x1.toInt) (by omega) x2.toInt.toNat
          obtain ⟨NN, hN⟩ : ∃ NN : Nat, (NN : Int) = jpw (jdir x1.toInt) x2.toInt.toNat := ⟨(jpw (jdir x1.toInt) x2.toInt.toNat).toNat, by omega⟩
          refine J_aload_n dX7_reach_44 rfl ?_
          obtain ⟨fs45, hO45, hK45⟩ := WT_obj hW id ha0
          obtain ⟨w45, hF45, b45, rfl, hb45⟩ := hK45.2 19 (.inr (some (.inl 28))) rfl
          refine J_get jf_X7_64 dX7_reach_45 hO45 hF45 ?_
          refine Jz_bipush 7 dX7_reach_48 (by decide) (fun y48 he48 => ?_)
          refine J_iload_n dX7_reach_50 rfl ?_
          refine Jz_imul he48 jEq.rf dX7_reach_51 (by omega) (by omega) (fun y51 he51 => ?_)
          refine J_iload_n dX7_reach_52 rfl ?_
          refine Jz_iadd he51 jEq.rf dX7_reach_53 (by omega) (by omega) (fun y53 he53 => ?_)
          obtain ⟨n54, f54, hA54, hN54, hM54, hv54⟩ := WT_arrI (r := (-2147483648, 2147483647)) hW id rfl hb45
          obtain rfl := hM54 28 rfl
          clear hN54 hM54
          refine Jz_ialdw he53 dX7_reach_54 hA54 rfl (by omega) (by omega) (fun y54 => ?_)
          refine Jz_if_ne (tgt := 137) jEq.rf dX7_reach_55 (by decide) (fun c55 => ?_) (fun c55 => ?_)
          · refine J_aload_n dX7_reach_137 rfl ?_
            refine J_get jf_X7_64 dX7_reach_138 hO45 hF45 ?_
            refine Jz_bipush 7 dX7_reach_141 (by decide) (fun y141 he141 => ?_)
            refine J_iload_n dX7_reach_143 rfl ?_
            refine Jz_imul he141 jEq.rf dX7_reach_144 (by omega) (by omega) (fun y144 he144 => ?_)
            refine J_iload_n dX7_reach_145 rfl ?_
            refine Jz_iadd he144 jEq.rf dX7_reach_146 (by omega) (by omega) (fun y146 he146 => ?_)
            refine Jz_ialdw he146 dX7_reach_147 hA54 rfl (by omega) (by omega) (fun y147 => ?_)
            exact J_ret (r := some (.int _)) dX7_reach_148 ⟨rfl, _, rfl, rfl⟩ (⟨⟨hW, he, ⟨_, rfl, (j_rng _).1, (j_rng _).2⟩⟩, hkp⟩)
          · refine Jz_iconst 0 dX7_reach_58 (by decide) (fun y58 he58 => ?_)
            refine J_istore dX7_reach_59 rfl (by decide) ?_
            obtain ⟨w61t20, hF61t20, b61t20, rfl, hb61t20⟩ := hK45.2 20 (.inr (some (.inl 42))) rfl
            obtain ⟨n61tb61t20, f61tb61t20, hA61tb61t20, hN61tb61t20, hM61tb61t20, hv61tb61t20⟩ := WT_arrI (r := (0, 1)) hW id rfl hb61t20
            obtain rfl := hM61tb61t20 10000 rfl
            clear hN61tb61t20 hM61tb61t20
            have L61 : ∀ (N : Nat) (V : jH) (i4n61 : Int32) (F42n61 : Nat → Int32), WT V → jeff [.inr 5, .inl 17, .inl 18, .inl 19, .inl 20, .inl 42, .inl 29, .inl 28] V0 V → (jis V (.inr 5) a0) → (jis V (.inl 28) b45) → (jis V (.inl 42) b61t20) → (jkc 5 [0, 23, 24] V0 V) → (V a0 = some (.inr (5, fs45))) → (jokO V (jFs 5) fs45) → (V b61t20 = some (.inl (42, 10000, .inl F42n61))) → (0 ≤ i4n61.toInt) → (∀ k : Nat, (k : Int) < i4n61.toInt → (F42n61 k).toInt = 0) → (10001 - i4n61.toInt).toNat < N → J tS mX7_reach d 61 [some (.ref a0), some (.int x1), some (.int x2), some (.int y30), some (.int i4n61)] [] V 0 0 (fun r V => (jPost [.inr 5, .inl 17, .inl 18, .inl 19, .inl 20, .inl 42, .inl 29, .inl 28] V0 (fun r _ => ∃ y : Int32, r = some (.int y) ∧ ((-2147483648) ≤ y.toInt) ∧ (y.toInt ≤ 2147483647))) r V ∧ jkc 5 [0, 23, 24] V0 V) := by
              intro N
              induction N with
              | zero => intro V i4n61 F42n61 hW he ha0 hb45 hb61t20 hkp hO45 hK45 hAF42n61 hi4 hz hm; exact absurd hm (Nat.not_lt_zero _)
              | succ N ih =>
                intro V i4n61 F42n61 hW he ha0 hb45 hb61t20 hkp hO45 hK45 hAF42n61 hi4 hz hm
                have ih61 := ih
                have hri4 := j_rng i4n61
                obtain ⟨hNF42n61, hvF42n61⟩ := WT_rngI (r := (0, 1)) hW id rfl hAF42n61
                clear hNF42n61
                refine J_iload dX7_reach_61 rfl ?_
                refine J_iload_n dX7_reach_63 rfl ?_
                refine Jz_icmp_ge (tgt := 81) jEq.rf hz30 dX7_reach_64 (by decide) (fun c64 => ?_) (fun c64 => ?_)
                · refine J_aload_n dX7_reach_81 rfl ?_
                  refine Jz_iconst 0 dX7_reach_82 (by decide) (fun y82 he82 => ?_)
                  refine Jz_putI hO45 hW id rfl jf_X7_205 jt_X7_22 he82 dX7_reach_83 (by omega) (by omega) (fun _ _ => ⟨rfl, rfl⟩) (fun V83 fs83 hW hx83 hO83 hS83 hT83 hB83 => ?_)
                  have hK83 : jokO _ (jFs 5) fs83 := hW _ _ id hO83
                  have hF83_19 := (hT83 19 (by decide)).trans hF45
                  have hF83_20 := (hT83 20 (by decide)).trans hF61t20
                  have he := he.trans (hx83.sub (jsub_of rfl))
                  have hkp := hkp.trans (jkc.put hO45 hO83 hT83 hB83 (by decide))
                  have ha0 := ha0.mono hx83.1
                  have hb45 := hb45.mono hx83.1
                  have hb61t20 := hb61t20.mono hx83.1
                  have hAF42n61 := hx83.2 _ _ hAF42n61 (jnot_of rfl)
                  have hj0 := jcn_zero (c := 0) (F := F42n61) NN (fun k hk => hz k (by omega))
                  refine J_aload_n dX7_reach_86 rfl ?_
                  refine Jz_iconst 0 dX7_reach_87 (by decide) (fun y87 he87 => ?_)
                  refine Jw_callV1 (q9 := (RX7, TX7, 34)) moX7_meets jw_ml_X7_208 jw_im_X7_meets jw_se_X7_meets ha0 rfl rfl dX7_reach_88 (w_X7_meets (d - 1) _ a0 y87 y82 b61t20 NN F42n61 (by omega) hW  ha0 ⟨_, hO83, hS83⟩ ⟨_, hO83, hF83_20⟩ hAF42n61 (by omega) (by rw [he87.eq]; omega) (by rw [he87.eq]; omega) (by rw [he82.eq, hj0]; rfl)) (by omega) (Nat.zero_le _) (Nat.zero_le _) (Nat.le_of_ble_eq_true rfl) (fun r88 V88 h88 => ?_)
                  obtain ⟨h88, hX88_0, hX88_1⟩ := h88
                  obtain ⟨hW, hx88, hr88⟩ := h88
                  have he := he.trans (hx88.sub (jsub_of rfl))
                  have hkp := hkp.trans hX88_1
                  have ha0 := ha0.mono hx88.1
                  have hb45 := hb45.mono hx88.1
                  have hb61t20 := hb61t20.mono hx88.1
                  obtain ⟨fs88a0, hOfs88a0, hRfs88a0⟩ := hx88.1.keep hO83
                  have hKfs88a0 : jokO _ (jFs 5) fs88a0 := hW _ _ id hOfs88a0
                  have hFfs88a0_19 := hRfs88a0 _ _ hF83_19
                  have hFfs88a0_20 := hRfs88a0 _ _ hF83_20
                  cases hr88
                  obtain ⟨G88, v88, hA88, hv88, hc88⟩ := hX88_0
                  have hFv8822 := hv88.get hOfs88a0
                  obtain ⟨hN_G88, hv_G88⟩ := WT_rngI (r := (0, 1)) hW id rfl hA88
                  clear hN_G88
                  refine Jz_iconst 0 dX7_reach_91 (by decide) (fun y91 he91 => ?_)
                  refine J_istore dX7_reach_92 rfl (by decide) ?_
                  have L94 : ∀ (N : Nat) (V : jH) (i4n94 : Int32) (gs94a0 : List Value) (g22n94 : Int32) (F42n94 : Nat → Int32), WT V → jeff [.inr 5, .inl 17, .inl 18, .inl 19, .inl 20, .inl 42, .inl 29, .inl 28] V0 V → (jis V (.inr 5) a0) → (jis V (.inl 28) b45) → (jis V (.inl 42) b61t20) → (jkc 5 [0, 23, 24] V0 V) → (V a0 = some (.inr (5, gs94a0))) → (gs94a0[19]? = some (.ref b45)) → (gs94a0[20]? = some (.ref b61t20)) → (gs94a0[22]? = some (.int g22n94)) → (V b61t20 = some (.inl (42, 10000, .inl F42n94))) → (0 ≤ i4n94.toInt) → (g22n94.toInt = (jcn 0 F42n94 NN : Int)) → (10001 - i4n94.toInt).toNat < N → J tS mX7_reach d 94 [some (.ref a0), some (.int x1), some (.int x2), some (.int y30), some (.int i4n94)] [] V 0 0 (fun r V => (jPost [.inr 5, .inl 17, .inl 18, .inl 19, .inl 20, .inl 42, .inl 29, .inl 28] V0 (fun r _ => ∃ y : Int32, r = some (.int y) ∧ ((-2147483648) ≤ y.toInt) ∧ (y.toInt ≤ 2147483647))) r V ∧ jkc 5 [0, 23, 24] V0 V) := by
                    intro N
                    induction N with
                    | zero => intro V i4n94 gs94a0 g22n94 F42n94 hW he ha0 hb45 hb61t20 hkp hOgs94a0 hFgs94a0_19 hFgs94a0_20 hFgs94a0_22 hAF42n94 hi4 hq4 hm; exact absurd hm (Nat.not_lt_zero _)
                    | succ N ih =>
                      intro V i4n94 gs94a0 g22n94 F42n94 hW he ha0 hb45 hb61t20 hkp hOgs94a0 hFgs94a0_19 hFgs94a0_20 hFgs94a0_22 hAF42n94 hi4 hq4 hm
                      have ih94 := ih
                      have hri4 := j_rng i4n94
                      have hKgs94a0 : jokO V (jFs 5) gs94a0 := hW _ _ id hOgs94a0
                      have hrgg22n94 : (-2147483648) ≤ g22n94.toInt ∧ g22n94.toInt ≤ 2147483647 := jok_rngI hKgs94a0 rfl hFgs94a0_22
                      obtain ⟨hNF42n94, hvF42n94⟩ := WT_rngI (r := (0, 1)) hW id rfl hAF42n94
                      clear hNF42n94
                      have hle := jcn_le (c := 0) (F := F42n94) NN
                      refine J_iload dX7_reach_94 rfl ?_
                      refine J_aload_n dX7_reach_96 rfl ?_
                      refine J_get jf_X7_205 dX7_reach_97 hOgs94a0 hFgs94a0_22 ?_
                      refine Jz_icmp_ge (tgt := 122) jEq.rf jEq.rf dX7_reach_100 (by decide) (fun c100 => ?_) (fun c100 => ?_)
                      · refine J_aload_n dX7_reach_122 rfl ?_
                        refine J_get jf_X7_64 dX7_reach_123 hOgs94a0 hFgs94a0_19 ?_
                        refine Jz_bipush 7 dX7_reach_126 (by decide) (fun y126 he126 => ?_)
                        refine J_iload_n dX7_reach_128 rfl ?_
                        refine Jz_imul he126 jEq.rf dX7_reach_129 (by omega) (by omega) (fun y129 he129 => ?_)
                        refine J_iload_n dX7_reach_130 rfl ?_
                        refine Jz_iadd he129 jEq.rf dX7_reach_131 (by omega) (by omega) (fun y131 he131 => ?_)
                        refine J_aload_n dX7_reach_132 rfl ?_
                        refine J_get jf_X7_205 dX7_reach_133 hOgs94a0 hFgs94a0_22 ?_
                        obtain ⟨n136, f136, hA136, hN136, hM136, hv136⟩ := WT_arrI (r := (-2147483648, 2147483647)) hW id rfl hb45
                        obtain rfl := hM136 28 rfl
                        clear hN136 hM136
                        refine Jz_iastw (r := ((-2147483648), 2147483647)) he131 jEq.rf hW id dX7_reach_136 hA136 rfl rfl (by omega) (by omega) (j_rng _).1 (j_rng _).2 (fun V136 hW hx136 => ?_)
                        have he := he.trans (hx136.sub (jsub_of rfl))
                        have hkp := hkp.trans (jkc.of hx136 (jnot_of rfl))
                        have ha0 := ha0.mono hx136.1
                        have hb45 := hb45.mono hx136.1
                        have hb61t20 := hb61t20.mono hx136.1
                        have hOgs94a0 := hx136.2 _ _ hOgs94a0 (jnot_of rfl)
                        have hKgs94a0 := hKgs94a0.mono hx136.1
                        have hAF42n94 := hx136.2 _ _ hAF42n94 (jnot_of rfl)
                        refine J_aload_n dX7_reach_137 rfl ?_
                        refine J_get jf_X7_64 dX7_reach_138 hOgs94a0 hFgs94a0_19 ?_
                        refine Jz_bipush 7 dX7_reach_141 (by decide) (fun y141 he141 => ?_)
                        refine J_iload_n dX7_reach_143 rfl ?_
                        refine Jz_imul he141 jEq.rf dX7_reach_144 (by omega) (by omega) (fun y144 he144 => ?_)
                        refine J_iload_n dX7_reach_145 rfl ?_
                        refine Jz_iadd he144 jEq.rf dX7_reach_146 (by omega) (by omega) (fun y146 he146 => ?_)
                        obtain ⟨n147, f147, hA147, hN147, hM147, hv147⟩ := WT_arrI (r := (-2147483648, 2147483647)) hW id rfl hb45
                        obtain rfl := hM147 28 rfl
                        clear hN147 hM147
                        refine Jz_ialdw he146 dX7_reach_147 hA147 rfl (by omega) (by omega) (fun y147 => ?_)
                        exact J_ret (r := some (.int _)) dX7_reach_148 ⟨rfl, _, rfl, rfl⟩ (⟨⟨hW, he, ⟨_, rfl, (j_rng _).1, (j_rng _).2⟩⟩, hkp⟩)
                      · refine J_aload_n dX7_reach_103 rfl ?_
                        refine J_iload_n dX7_reach_104 rfl ?_
                        refine J_iload_n dX7_reach_105 rfl ?_
                        refine J_aload_n dX7_reach_106 rfl ?_
                        obtain ⟨w107, hF107, b107, rfl, hb107⟩ := hKgs94a0.2 21 (.inr (some (.inl 29))) rfl
                        refine J_get jf_X7_70 dX7_reach_107 hOgs94a0 hF107 ?_
                        refine J_iload dX7_reach_110 rfl ?_
                        obtain ⟨n112, f112, hA112, hN112, hM112, hv112⟩ := WT_arrI (r := (0, 9999)) hW id rfl hb107
                        obtain rfl := hM112 10000 rfl
                        clear hN112 hM112
                        refine Jz_ialdr (r := (0, 9999)) jEq.rf dX7_reach_112 hA112 rfl hv112 (by omega) (by omega) (fun y112 hl112 hh112 => ?_)
                        dsimp only at hl112 hh112
                        refine Jw_callV3 (q9 := (RX7, TX7, 34)) moX7_turnsAll jw_ml_X7_211 jw_im_X7_turnsAll jw_se_X7_turnsAll ha0 rfl rfl dX7_reach_113 (w_X7_turnsAll (d - 1) _ a0 x1 x2 y112 g22n94 b61t20 NN F42n94 (by omega) hW  ha0 ⟨_, hOgs94a0, hFgs94a0_22⟩ ⟨_, hOgs94a0, hFgs94a0_20⟩ hAF42n94 (by omega) (by omega) (by omega) (by omega) (by omega) (by omega) hN hq4) (by omega) (Nat.zero_le _) (Nat.zero_le _) (Nat.le_of_ble_eq_true rfl) (fun r113 V113 h113 => ?_)
                        obtain ⟨h113, hX113_0, hX113_1⟩ := h113
                        obtain ⟨hW, hx113, hr113⟩ := h113
                        have he := he.trans (hx113.sub (jsub_of rfl))
                        have hkp := hkp.trans hX113_1
                        have ha0 := ha0.mono hx113.1
                        have hb45 := hb45.mono hx113.1
                        have hb61t20 := hb61t20.mono hx113.1
                        have hb107 := hb107.mono hx113.1
                        obtain ⟨fs113a0, hOfs113a0, hRfs113a0⟩ := hx113.1.keep hOgs94a0
                        have hKfs113a0 : jokO _ (jFs 5) fs113a0 := hW _ _ id hOfs113a0
                        have hFfs113a0_19 := hRfs113a0 _ _ hFgs94a0_19
                        have hFfs113a0_20 := hRfs113a0 _ _ hFgs94a0_20
                        have hFfs113a0_21 := hRfs113a0 _ _ hF107
                        cases hr113
                        obtain ⟨G113, v113, hA113, hv113, hc113⟩ := hX113_0
                        have hFv11322 := hv113.get hOfs113a0
                        obtain ⟨hN_G113, hv_G113⟩ := WT_rngI (r := (0, 1)) hW id rfl hA113
                        clear hN_G113
                        refine Jz_iinc 1 dX7_reach_116 rfl rfl (by decide) jEq.rf (by decide) (by omega) (by omega) (fun y116 he116 => ?_)
                        refine J_goto (tgt := 94) dX7_reach_119 (by decide) ?_
                        refine J.mask [true, true, true, true, true] ?_
                        exact ih94 _ y116 fs113a0 v113 G113 hW he ha0 hb45 hb61t20 hkp hOfs113a0 hFfs113a0_19 hFfs113a0_20 hFv11322 hA113 (by (try simp only [he116.eq, true_and, and_true]) <;> omega) (by (try simp only [he116.eq, true_and, and_true]) <;> omega) (by (try simp only [he116.eq, true_and, and_true]) <;> omega)
                  refine J.mask [true, true, true, true, true] ?_
                  exact L94 _ _ y91 fs88a0 v88 G88 hW he ha0 hb45 hb61t20 hkp hOfs88a0 hFfs88a0_19 hFfs88a0_20 hFv8822 hA88 (by (try simp only [he91.eq, true_and, and_true]) <;> omega) (by (try simp only [he91.eq, true_and, and_true]) <;> omega) (Nat.lt_succ_self _)
                · refine J_aload_n dX7_reach_67 rfl ?_
                  refine J_get jf_X7_67 dX7_reach_68 hO45 hF61t20 ?_
                  refine J_iload dX7_reach_71 rfl ?_
                  refine Jz_iconst 0 dX7_reach_73 (by decide) (fun y73 he73 => ?_)
                  refine Jz_zast (r := (0, 1)) jEq.rf he73 hW id dX7_reach_74 hAF42n61 rfl rfl (by omega) (by omega) (by omega) (by omega) (fun _ h => vp_nar_b (by omega) (by omega)) (fun V74 G74 hW hx74 hA74 hp74 ho74 => ?_)
                  obtain ⟨hN74, hv74⟩ := WT_rngI (r := (0, 1)) hW id rfl hA74
                  clear hN74
                  have he := he.trans (hx74.sub (jsub_of rfl))
                  have hkp := hkp.trans (jkc.of hx74 (jnot_of rfl))
                  have ha0 := ha0.mono hx74.1
                  have hb45 := hb45.mono hx74.1
                  have hb61t20 := hb61t20.mono hx74.1
                  have hO45 := hx74.2 _ _ hO45 (jnot_of rfl)
                  have hK45 := hK45.mono hx74.1
                  refine Jz_iinc 1 dX7_reach_75 rfl rfl (by decide) jEq.rf (by decide) (by omega) (by omega) (fun y75 he75 => ?_)
                  refine J_goto (tgt := 61) dX7_reach_78 (by decide) ?_
                  refine J.mask [true, true, true, true, true] ?_
                  exact ih61 _ y75 G74 hW he ha0 hb45 hb61t20 hkp hO45 hK45 hA74 (by (try simp only [he75.eq, true_and, and_true]) <;> omega) (fun k hk => by rw [he75.eq] at hk; exact (Nat.decEq k i4n61.toInt.toNat).byCases (fun hq => by rw [hq, hp74, he73.eq]) (fun hq => by rw [ho74 k hq]; exact hz k (by omega))) (by (try simp only [he75.eq, true_and, and_true]) <;> omega)
            refine J.mask [true, true, true, true, true] ?_
            exact L61 _ _ y58 f61tb61t20 hW he ha0 hb45 hb61t20 hkp hO45 hK45 hA61tb61t20 (by (try simp only [he58.eq, true_and, and_true]) <;> omega) (fun k hk => by rw [he58.eq] at hk; omega) (Nat.lt_succ_self _)
        · refine Jz_bipush (-5) dX7_reach_41 (by decide) (fun y41 he41 => ?_)
          exact J_ret (r := some (.int _)) dX7_reach_43 ⟨rfl, _, rfl, rfl⟩ (⟨⟨hW, he, ⟨_, rfl, (j_rng _).1, (j_rng _).2⟩⟩, hkp⟩)
      · have q19_1 := hI16_1.of (by omega)
        try simp only [he13.eq, he14.eq] at q19_1
        refine Jz_bipush (-2) dX7_reach_22 (by decide) (fun y22 he22 => ?_)
        exact J_ret (r := some (.int _)) dX7_reach_24 ⟨rfl, _, rfl, rfl⟩ (⟨⟨hW, he, ⟨_, rfl, (j_rng _).1, (j_rng _).2⟩⟩, hkp⟩)
set_option maxRecDepth 100000 in
set_option maxHeartbeats 8000000 in
theorem w_X7_countWays {tS : jTS} (d : Nat) (V0 : jH) (a0 : Nat) (hd : 2 ≤ d) (hW : WT V0) (ha0 : jis V0 (.inr 5) a0) : jTot tS mX7_countWays d [.ref a0] V0 0 0 (fun r V => (jPost [.inr 5, .inl 30, .inl 44, .inl 31, .inl 32] V0 rV) r V ∧ jkc 5 [0, 23, 24] V0 V) := by
  refine jTot.of_J [some (.ref a0), none, none, none, none] moX7_countWays (Nat.le_of_ble_eq_true rfl) rfl ?_
  have he : jeff [.inr 5, .inl 30, .inl 44, .inl 31, .inl 32] V0 V0 := jeff.refl _ _
  have hkp : jkc 5 [0, 23, 24] V0 V0 := jkc.rf
  refine J_aload_n dX7_countWays_0 rfl ?_
  obtain ⟨fs1, hO1, hK1⟩ := WT_obj hW id ha0
  obtain ⟨w1, hF1, y1, rfl, hl1, hh1⟩ := hK1.2 26 (.inl (0, 1)) rfl
  dsimp only at hl1 hh1
  refine J_get jf_X7_214 dX7_countWays_1 hO1 hF1 ?_
  refine Jz_if_eq (tgt := 8) jEq.rf dX7_countWays_4 (by decide) (fun c4 => ?_) (fun c4 => ?_)
  · refine J_aload_n dX7_countWays_8 rfl ?_
    refine Jz_iconst 1 dX7_countWays_9 (by decide) (fun y9 he9 => ?_)
    refine Jz_putI hO1 hW id rfl jf_X7_214 jt_X7_26 he9 dX7_countWays_10 (by omega) (by omega) (fun _ h => ⟨nar_b (by omega) (by omega), fit_b (by omega) (by omega)⟩) (fun V10 fs10 hW hx10 hO10 hS10 hT10 hB10 => ?_)
    have hK10 : jokO _ (jFs 5) fs10 := hW _ _ id hO10
    have he := he.trans (hx10.sub (jsub_of rfl))
    have hkp := hkp.trans (jkc.put hO1 hO10 hT10 hB10 (by decide))
    have ha0 := ha0.mono hx10.1
    refine J_aload_n dX7_countWays_13 rfl ?_
    refine Jz_iconst 0 dX7_countWays_14 (by decide) (fun y14 he14 => ?_)
    refine Jz_putI hO10 hW id rfl jf_X7_218 jt_X7_27 he14 dX7_countWays_15 (by omega) (by omega) (fun _ h => ⟨nar_b (by omega) (by omega), fit_b (by omega) (by omega)⟩) (fun V15 fs15 hW hx15 hO15 hS15 hT15 hB15 => ?_)
    have hK15 : jokO _ (jFs 5) fs15 := hW _ _ id hO15
    have hF15_26 := (hT15 26 (by decide)).trans hS10
    have he := he.trans (hx15.sub (jsub_of rfl))
    have hkp := hkp.trans (jkc.put hO10 hO15 hT15 hB15 (by decide))
    have ha0 := ha0.mono hx15.1
    refine J_aload_n dX7_countWays_18 rfl ?_
    refine Jz_iconst 0 dX7_countWays_19 (by decide) (fun y19 he19 => ?_)
    refine Jz_putI hO15 hW id rfl jf_X7_221 jt_X7_28 he19 dX7_countWays_20 (by omega) (by omega) (fun _ _ => ⟨rfl, rfl⟩) (fun V20 fs20 hW hx20 hO20 hS20 hT20 hB20 => ?_)
    have hK20 : jokO _ (jFs 5) fs20 := hW _ _ id hO20
    have hF20_27 := (hT20 27 (by decide)).trans hS15
    have hF20_26 := (hT20 26 (by decide)).trans hF15_26
    have he := he.trans (hx20.sub (jsub_of rfl))
    have hkp := hkp.trans (jkc.put hO15 hO20 hT20 hB20 (by decide))
    have ha0 := ha0.mono hx20.1
    refine Jz_iconst 0 dX7_countWays_23 (by decide) (fun y23 he23 => ?_)
    refine J_istore_n dX7_countWays_24 rfl (by decide) ?_
    obtain ⟨w25t30, hF25t30, b25t30, rfl, hb25t30⟩ := hK20.2 30 (.inr (some (.inl 44))) rfl
    obtain ⟨n25tb25t30, f25tb25t30, hA25tb25t30, hN25tb25t30, hM25tb25t30, hv25tb25t30⟩ := WT_arrI (r := (0, 1)) hW id rfl hb25t30
    obtain rfl := hM25tb25t30 36 rfl
    clear hN25tb25t30 hM25tb25t30
    have L25 : ∀ (N : Nat) (V : jH) (i1n25 : Int32) (F44n25 : Nat → Int32), WT V → jeff [.inr 5, .inl 30, .inl 44, .inl 31, .inl 32] V0 V → (jis V (.inr 5) a0) → (jis V (.inl 44) b25t30) → (jkc 5 [0, 23, 24] V0 V) → (V a0 = some (.inr (5, fs20))) → (jokO V (jFs 5) fs20) → (V b25t30 = some (.inl (44, 36, .inl F44n25))) → (0 ≤ i1n25.toInt) → (∀ k : Nat, (k : Int) < i1n25.toInt → (F44n25 k).toInt = 0) → (300 - i1n25.toInt).toNat < N → J tS mX7_countWays d 25 [some (.ref a0), some (.int i1n25), none, none, none] [] V 0 0 (fun r V => (jPost [.inr 5, .inl 30, .inl 44, .inl 31, .inl 32] V0 rV) r V ∧ jkc 5 [0, 23, 24] V0 V) := by
      intro N
      induction N with
      | zero => intro V i1n25 F44n25 hW he ha0 hb25t30 hkp hO20 hK20 hAF44n25 hi1 hz hm; exact absurd hm (Nat.not_lt_zero _)
      | succ N ih =>
        intro V i1n25 F44n25 hW he ha0 hb25t30 hkp hO20 hK20 hAF44n25 hi1 hz hm
        have ih25 := ih
        have hri1 := j_rng i1n25
        obtain ⟨hNF44n25, hvF44n25⟩ := WT_rngI (r := (0, 1)) hW id rfl hAF44n25
        clear hNF44n25
        refine J_iload_n dX7_countWays_25 rfl ?_
        refine Jz_bipush 36 dX7_countWays_26 (by decide) (fun y26 he26 => ?_)
        refine Jz_icmp_ge (tgt := 51) jEq.rf he26 dX7_countWays_28 (by decide) (fun c28 => ?_) (fun c28 => ?_)
        · refine Jz_iconst 0 dX7_countWays_51 (by decide) (fun y51 he51 => ?_)
          refine J_istore_n dX7_countWays_52 rfl (by decide) ?_
          refine Jz_iconst 0 dX7_countWays_53 (by decide) (fun y53 he53 => ?_)
          refine J_istore_n dX7_countWays_54 rfl (by decide) ?_
          refine J_aload_n dX7_countWays_55 rfl ?_
          refine Jw_callV0 (q9 := (RX7, TX7, 34)) moX7_open jw_ml_X7_224 jw_im_X7_open jw_se_X7_open ha0 rfl rfl dX7_countWays_56 (w_X7_open (d - 1) _ a0 (by omega) hW  ha0) (by omega) (Nat.zero_le _) (Nat.zero_le _) (Nat.le_of_ble_eq_true rfl) (fun r56 V56 h56 => ?_)
          obtain ⟨⟨y56, rfl, hl56, hh56⟩, hE56⟩ := h56
          have hE56 := hE56.symm
          subst hE56
          clear hl56 hh56
          refine J_istore_n dX7_countWays_59 rfl (by decide) ?_
          refine J_aload_n dX7_countWays_60 rfl ?_
          obtain ⟨w61, hF61, b61, rfl, hb61⟩ := hK20.2 31 (.inr (some (.inl 31))) rfl
          refine J_get jf_X7_89 dX7_countWays_61 hO20 hF61 ?_
          refine Jz_iconst 0 dX7_countWays_64 (by decide) (fun y64 he64 => ?_)
          refine Jz_iconst 0 dX7_countWays_65 (by decide) (fun y65 he65 => ?_)
          obtain ⟨n66, f66, hA66, hN66, hM66, hv66⟩ := WT_arrI (r := (0, 35)) hW id rfl hb61
          obtain rfl := hM66 37 rfl
          clear hN66 hM66
          refine Jz_iast (r := (0, 35)) he64 he65 hW id dX7_countWays_66 hA66 rfl rfl (by omega) (by omega) (by omega) (by omega) (fun V66 G66 hW hx66 hA66 hp66 ho66 => ?_)
          obtain ⟨hN66, hv66⟩ := WT_rngI (r := (0, 35)) hW id rfl hA66
          clear hN66
          have he := he.trans (hx66.sub (jsub_of rfl))
          have hkp := hkp.trans (jkc.of hx66 (jnot_of rfl))
          have ha0 := ha0.mono hx66.1
          have hb25t30 := hb25t30.mono hx66.1
          have hb61 := hb61.mono hx66.1
          have hO20 := hx66.2 _ _ hO20 (jnot_of rfl)
          have hK20 := hK20.mono hx66.1
          have hAF44n25 := hx66.2 _ _ hAF44n25 (jnot_of rfl)
          refine J_aload_n dX7_countWays_67 rfl ?_
          refine J_get jf_X7_86 dX7_countWays_68 hO20 hF25t30 ?_
          refine Jz_iconst 0 dX7_countWays_71 (by decide) (fun y71 he71 => ?_)
          refine Jz_iconst 1 dX7_countWays_72 (by decide) (fun y72 he72 => ?_)
          refine Jz_zast (r := (0, 1)) he71 he72 hW id dX7_countWays_73 hAF44n25 rfl rfl (by omega) (by omega) (by omega) (by omega) (fun _ h => vp_nar_b (by omega) (by omega)) (fun V73 G73 hW hx73 hA73 hp73 ho73 => ?_)
          obtain ⟨hN73, hv73⟩ := WT_rngI (r := (0, 1)) hW id rfl hA73
          clear hN73
          have he := he.trans (hx73.sub (jsub_of rfl))
          have hkp := hkp.trans (jkc.of hx73 (jnot_of rfl))
          have ha0 := ha0.mono hx73.1
          have hb25t30 := hb25t30.mono hx73.1
          have hb61 := hb61.mono hx73.1
          have hO20 := hx73.2 _ _ hO20 (jnot_of rfl)
          have hK20 := hK20.mono hx73.1
          have hA66 := hx73.2 _ _ hA66 (jnot_of rfl)
          refine J_aload_n dX7_countWays_74 rfl ?_
          obtain ⟨w75, hF75, b75, rfl, hb75⟩ := hK20.2 32 (.inr (some (.inl 32))) rfl
          refine J_get jf_X7_92 dX7_countWays_75 hO20 hF75 ?_
          refine Jz_iconst 0 dX7_countWays_78 (by decide) (fun y78 he78 => ?_)
          refine Jz_iconst (-1) dX7_countWays_79 (by decide) (fun y79 he79 => ?_)
          obtain ⟨n80, f80, hA80, hN80, hM80, hv80⟩ := WT_arrI (r := (-1, 4)) hW id rfl hb75
          obtain rfl := hM80 37 rfl
          clear hN80 hM80
          refine Jz_iast (r := ((-1), 4)) he78 he79 hW id dX7_countWays_80 hA80 rfl rfl (by omega) (by omega) (by omega) (by omega) (fun V80 G80 hW hx80 hA80 hp80 ho80 => ?_)
          obtain ⟨hN80, hv80⟩ := WT_rngI (r := ((-1), 4)) hW id rfl hA80
          clear hN80
          have he := he.trans (hx80.sub (jsub_of rfl))
          have hkp := hkp.trans (jkc.of hx80 (jnot_of rfl))
          have ha0 := ha0.mono hx80.1
          have hb25t30 := hb25t30.mono hx80.1
          have hb61 := hb61.mono hx80.1
          have hb75 := hb75.mono hx80.1
          have hO20 := hx80.2 _ _ hO20 (jnot_of rfl)
          have hK20 := hK20.mono hx80.1
          have hA66 := hx80.2 _ _ hA66 (jnot_of rfl)
          have hA73 := hx80.2 _ _ hA73 (jnot_of rfl)
          have L81 : ∀ (N : Nat) (V : jH) (i1n81 : Int32) (i2n81 : Int32) (gs81a0 : List Value) (F44n81 : Nat → Int32) (F31n81 : Nat → Int32) (F32n81 : Nat → Int32), WT V → jeff [.inr 5, .inl 30, .inl 44, .inl 31, .inl 32] V0 V → (jis V (.inr 5) a0) → (jis V (.inl 44) b25t30) → (jis V (.inl 31) b61) → (jis V (.inl 32) b75) → (jkc 5 [0, 23, 24] V0 V) → (V a0 = some (.inr (5, gs81a0))) → (gs81a0[30]? = some (.ref b25t30)) → (gs81a0[31]? = some (.ref b61)) → (gs81a0[32]? = some (.ref b75)) → (V b25t30 = some (.inl (44, 36, .inl F44n81))) → (V b61 = some (.inl (31, 37, .inl F31n81))) → (V b75 = some (.inl (32, 37, .inl F32n81))) → (-1 ≤ i2n81.toInt ∧ i2n81.toInt ≤ 35) → (0 ≤ i1n81.toInt ∧ i1n81.toInt ≤ 600000) → (∀ k : Nat, (k : Int) ≤ i2n81.toInt → -1 ≤ (F32n81 k).toInt ∧ (F32n81 k).toInt ≤ 3) → (∀ k : Nat, (k : Int) ≤ i2n81.toInt → 0 ≤ (F31n81 k).toInt ∧ (F31n81 k).toInt ≤ 35 ∧ ¬ (F44n81 (F31n81 k).toInt.toNat).toInt = 0) → (∀ i j : Nat, i < j → (j : Int) ≤ i2n81.toInt → ¬ (F31n81 i).toInt = (F31n81 j).toInt) → ((jcn 0 F44n81 36 : Int) = i2n81.toInt + 1) → ((600001 - i1n81.toInt) * 1000 + (i2n81.toInt + 1) * 10 + (7 - (F32n81 i2n81.toInt.toNat).toInt)).toNat < N → J tS mX7_countWays d 81 [some (.ref a0), some (.int i1n81), some (.int i2n81), some (.int y56), none] [] V 0 0 (fun r V => (jPost [.inr 5, .inl 30, .inl 44, .inl 31, .inl 32] V0 rV) r V ∧ jkc 5 [0, 23, 24] V0 V) := by
            intro N
            induction N with
            | zero => intro V i1n81 i2n81 gs81a0 F44n81 F31n81 F32n81 hW he ha0 hb25t30 hb61 hb75 hkp hOgs81a0 hFgs81a0_30 hFgs81a0_31 hFgs81a0_32 hAF44n81 hAF31n81 hAF32n81 hd hall htry hway hdis hcnt hm; exact absurd hm (Nat.not_lt_zero _)
            | succ N ih =>
              intro V i1n81 i2n81 gs81a0 F44n81 F31n81 F32n81 hW he ha0 hb25t30 hb61 hb75 hkp hOgs81a0 hFgs81a0_30 hFgs81a0_31 hFgs81a0_32 hAF44n81 hAF31n81 hAF32n81 hd hall htry hway hdis hcnt hm
              have ih81 := ih
              have hri1 := j_rng i1n81
              have hri2 := j_rng i2n81
              have hKgs81a0 : jokO V (jFs 5) gs81a0 := hW _ _ id hOgs81a0
              obtain ⟨hNF44n81, hvF44n81⟩ := WT_rngI (r := (0, 1)) hW id rfl hAF44n81
              clear hNF44n81
              obtain ⟨hNF31n81, hvF31n81⟩ := WT_rngI (r := (0, 35)) hW id rfl hAF31n81
              clear hNF31n81
              obtain ⟨hNF32n81, hvF32n81⟩ := WT_rngI (r := ((-1), 4)) hW id rfl hAF32n81
              clear hNF32n81
              refine J_iload_n dX7_countWays_81 rfl ?_
              refine Jz_if_lt (tgt := 248) jEq.rf dX7_countWays_82 (by decide) (fun c82 => ?_) (fun c82 => ?_)
              · exact J_ret (r := none) dX7_countWays_248 ⟨rfl, rfl⟩ (⟨⟨hW, he, rfl⟩, hkp⟩)
              · refine J_aload_n dX7_countWays_85 rfl ?_
                refine J_get jf_X7_92 dX7_countWays_86 hOgs81a0 hFgs81a0_32 ?_
                refine J_iload_n dX7_countWays_89 rfl ?_
                refine J_dup2 dX7_countWays_90 rfl rfl ?_
                refine Jz_iald (r := ((-1), 4)) jEq.rf dX7_countWays_91 hAF32n81 rfl hvF32n81 (by omega) (by omega) (fun y91 hf91 hl91 hh91 => ?_)
                dsimp only at hl91 hh91
                have hb91 := htry i2n81.toInt.toNat (by omega)
                rw [hf91] at hb91
                refine Jz_iconst 1 dX7_countWays_92 (by decide) (fun y92 he92 => ?_)
                refine Jz_iadd jEq.rf he92 dX7_countWays_93 (by omega) (by omega) (fun y93 he93 => ?_)
                refine Jz_iast (r := ((-1), 4)) jEq.rf he93 hW id dX7_countWays_94 hAF32n81 rfl rfl (by omega) (by omega) (by omega) (by omega) (fun V94 G94 hW hx94 hA94 hp94 ho94 => ?_)
                obtain ⟨hN94, hv94⟩ := WT_rngI (r := ((-1), 4)) hW id rfl hA94
                clear hN94
                have he := he.trans (hx94.sub (jsub_of rfl))
                have hkp := hkp.trans (jkc.of hx94 (jnot_of rfl))
                have ha0 := ha0.mono hx94.1
                have hb25t30 := hb25t30.mono hx94.1
                have hb61 := hb61.mono hx94.1
                have hb75 := hb75.mono hx94.1
                have hOgs81a0 := hx94.2 _ _ hOgs81a0 (jnot_of rfl)
                have hKgs81a0 := hKgs81a0.mono hx94.1
                have hAF44n81 := hx94.2 _ _ hAF44n81 (jnot_of rfl)
                have hAF31n81 := hx94.2 _ _ hAF31n81 (jnot_of rfl)
                refine J_aload_n dX7_countWays_95 rfl ?_
                refine J_get jf_X7_92 dX7_countWays_96 hOgs81a0 hFgs81a0_32 ?_
                refine J_iload_n dX7_countWays_99 rfl ?_
                refine Jz_iald (r := ((-1), 4)) jEq.rf dX7_countWays_100 hA94 rfl hv94 (by omega) (by omega) (fun y100 hf100 hl100 hh100 => ?_)
                dsimp only at hl100 hh100
                clear hl100 hh100
                have he100 : jEq y100.toInt (y91.toInt + 1) := by rw [← hf100, hp94]; exact he93
                refine Jz_iconst 4 dX7_countWays_101 (by decide) (fun y101 he101 => ?_)
                refine Jz_icmp_ne (tgt := 123) he100 he101 dX7_countWays_102 (by decide) (fun c102 => ?_) (fun c102 => ?_)
                · refine J_aload_n dX7_countWays_123 rfl ?_
                  refine J_aload_n dX7_countWays_124 rfl ?_
                  refine J_get jf_X7_89 dX7_countWays_125 hOgs81a0 hFgs81a0_31 ?_
                  refine J_iload_n dX7_countWays_128 rfl ?_
                  refine Jz_iald (r := (0, 35)) jEq.rf dX7_countWays_129 hAF31n81 rfl hvF31n81 (by omega) (by omega) (fun y129 hf129 hl129 hh129 => ?_)
                  dsimp only at hl129 hh129
                  have hb129 := hway i2n81.toInt.toNat (by omega)
                  rw [hf129] at hb129
                  refine J_aload_n dX7_countWays_130 rfl ?_
                  refine J_get jf_X7_92 dX7_countWays_131 hOgs81a0 hFgs81a0_32 ?_
                  refine J_iload_n dX7_countWays_134 rfl ?_
                  refine Jz_iald (r := ((-1), 4)) jEq.rf dX7_countWays_135 hA94 rfl hv94 (by omega) (by omega) (fun y135 hf135 hl135 hh135 => ?_)
                  dsimp only at hl135 hh135
                  clear hl135 hh135
                  have he135 : jEq y135.toInt (y91.toInt + 1) := by rw [← hf135, hp94]; exact he93
                  refine Jw_callV2 (q9 := (RX7, TX7, 34)) moX7_next jw_ml_X7_227 jw_im_X7_next jw_se_X7_next ha0 rfl rfl dX7_countWays_136 (w_X7_next (d - 1) _ a0 y129 y135 (by omega) hW  ha0) (by omega) (Nat.zero_le _) (Nat.zero_le _) (Nat.le_of_ble_eq_true rfl) (fun r136 V136 h136 => ?_)
                  obtain ⟨⟨y136, rfl, hl136, hh136⟩, hE136⟩ := h136
                  have hE136 := hE136.symm
                  subst hE136
                  refine J_istore dX7_countWays_139 rfl (by decide) ?_
                  refine J_iload dX7_countWays_141 rfl ?_
                  refine Jz_iconst (-1) dX7_countWays_143 (by decide) (fun y143 he143 => ?_)
                  refine Jz_icmp_eq (tgt := 245) jEq.rf he143 dX7_countWays_144 (by decide) (fun c144 => ?_) (fun c144 => ?_)
                  · refine J_goto (tgt := 81) dX7_countWays_245 (by decide) ?_
                    have hm0 : (F32n81 i2n81.toInt.toNat).toInt = y91.toInt := by rw [hf91]
                    have hm1 : (G94 i2n81.toInt.toNat).toInt = y91.toInt + 1 := by rw [hp94, he93.eq]
                    refine J.mask [true, true, true, true, false] ?_
                    exact ih81 _ i1n81 i2n81 gs81a0 F44n81 F31n81 G94 hW he ha0 hb25t30 hb61 hb75 hkp hOgs81a0 hFgs81a0_30 hFgs81a0_31 hFgs81a0_32 hAF44n81 hAF31n81 hA94 (by omega) (by omega) (fun k hk => (Nat.decEq k i2n81.toInt.toNat).byCases (fun hq => by rw [hq, hp94, he93.eq]; omega) (fun hq => by rw [ho94 k hq]; exact htry k (by omega))) hway hdis (by omega) (by omega)
                  · refine J_aload_n dX7_countWays_147 rfl ?_
                    refine J_get jf_X7_86 dX7_countWays_148 hOgs81a0 hFgs81a0_30 ?_
                    refine J_iload dX7_countWays_151 rfl ?_
                    refine Jz_zald (r := (0, 1)) jEq.rf dX7_countWays_153 hAF44n81 rfl hvF44n81 (by omega) (by omega) (fun y153 hf153 hl153 hh153 => ?_)
                    dsimp only at hl153 hh153
                    refine Jz_if_ne (tgt := 245) jEq.rf dX7_countWays_154 (by decide) (fun c154 => ?_) (fun c154 => ?_)
                    · refine J_goto (tgt := 81) dX7_countWays_245 (by decide) ?_
                      have hm0 : (F32n81 i2n81.toInt.toNat).toInt = y91.toInt := by rw [hf91]
                      have hm1 : (G94 i2n81.toInt.toNat).toInt = y91.toInt + 1 := by rw [hp94, he93.eq]
                      refine J.mask [true, true, true, true, false] ?_
                      exact ih81 _ i1n81 i2n81 gs81a0 F44n81 F31n81 G94 hW he ha0 hb25t30 hb61 hb75 hkp hOgs81a0 hFgs81a0_30 hFgs81a0_31 hFgs81a0_32 hAF44n81 hAF31n81 hA94 (by omega) (by omega) (fun k hk => (Nat.decEq k i2n81.toInt.toNat).byCases (fun hq => by rw [hq, hp94, he93.eq]; omega) (fun hq => by rw [ho94 k hq]; exact htry k (by omega))) hway hdis (by omega) (by omega)
                    · have hlt := jcn_lt (c := 0) (F := F44n81) (k := y136.toInt.toNat) (by rw [hf153]; exact c154) 36 (by omega)
                      refine Jz_iinc 1 dX7_countWays_157 rfl rfl (by decide) jEq.rf (by decide) (by omega) (by omega) (fun y157 he157 => ?_)
                      refine J_iload_n dX7_countWays_160 rfl ?_
                      refine Jz_ldc 600000 jw_k_X7_180 dX7_countWays_161 (by decide) (fun y161 he161 => ?_)
                      refine Jz_icmp_le (tgt := 172) he157 he161 dX7_countWays_163 (by decide) (fun c163 => ?_) (fun c163 => ?_)
                      · refine Jz_iinc 1 dX7_countWays_172 rfl rfl (by decide) jEq.rf (by decide) (by omega) (by omega) (fun y172 he172 => ?_)
                        refine J_aload_n dX7_countWays_175 rfl ?_
                        refine J_get jf_X7_89 dX7_countWays_176 hOgs81a0 hFgs81a0_31 ?_
                        refine J_iload_n dX7_countWays_179 rfl ?_
                        refine J_iload dX7_countWays_180 rfl ?_
                        refine Jz_iast (r := (0, 35)) he172 jEq.rf hW id dX7_countWays_182 hAF31n81 rfl rfl (by omega) (by omega) (by omega) (by omega) (fun V182 G182 hW hx182 hA182 hp182 ho182 => ?_)
                        obtain ⟨hN182, hv182⟩ := WT_rngI (r := (0, 35)) hW id rfl hA182
                        clear hN182
                        have he := he.trans (hx182.sub (jsub_of rfl))
                        have hkp := hkp.trans (jkc.of hx182 (jnot_of rfl))
                        have ha0 := ha0.mono hx182.1
                        have hb25t30 := hb25t30.mono hx182.1
                        have hb61 := hb61.mono hx182.1
                        have hb75 := hb75.mono hx182.1
                        have hOgs81a0 := hx182.2 _ _ hOgs81a0 (jnot_of rfl)
                        have hKgs81a0 := hKgs81a0.mono hx182.1
                        have hAF44n81 := hx182.2 _ _ hAF44n81 (jnot_of rfl)
                        have hA94 := hx182.2 _ _ hA94 (jnot_of rfl)
                        refine J_aload_n dX7_countWays_183 rfl ?_
                        refine J_get jf_X7_86 dX7_countWays_184 hOgs81a0 hFgs81a0_30 ?_
                        refine J_iload dX7_countWays_187 rfl ?_
                        refine Jz_iconst 1 dX7_countWays_189 (by decide) (fun y189 he189 => ?_)
                        refine Jz_zast (r := (0, 1)) jEq.rf he189 hW id dX7_countWays_190 hAF44n81 rfl rfl (by omega) (by omega) (by omega) (by omega) (fun _ h => vp_nar_b (by omega) (by omega)) (fun V190 G190 hW hx190 hA190 hp190 ho190 => ?_)
                        obtain ⟨hN190, hv190⟩ := WT_rngI (r := (0, 1)) hW id rfl hA190
                        clear hN190
                        have he := he.trans (hx190.sub (jsub_of rfl))
                        have hkp := hkp.trans (jkc.of hx190 (jnot_of rfl))
                        have ha0 := ha0.mono hx190.1
                        have hb25t30 := hb25t30.mono hx190.1
                        have hb61 := hb61.mono hx190.1
                        have hb75 := hb75.mono hx190.1
                        have hOgs81a0 := hx190.2 _ _ hOgs81a0 (jnot_of rfl)
                        have hKgs81a0 := hKgs81a0.mono hx190.1
                        have hA94 := hx190.2 _ _ hA94 (jnot_of rfl)
                        have hA182 := hx190.2 _ _ hA182 (jnot_of rfl)
                        refine J_aload_n dX7_countWays_191 rfl ?_
                        refine J_get jf_X7_92 dX7_countWays_192 hOgs81a0 hFgs81a0_32 ?_
                        refine J_iload_n dX7_countWays_195 rfl ?_
                        refine Jz_iconst (-1) dX7_countWays_196 (by decide) (fun y196 he196 => ?_)
                        refine Jz_iast (r := ((-1), 4)) he172 he196 hW id dX7_countWays_197 hA94 rfl rfl (by omega) (by omega) (by omega) (by omega) (fun V197 G197 hW hx197 hA197 hp197 ho197 => ?_)
                        obtain ⟨hN197, hv197⟩ := WT_rngI (r := ((-1), 4)) hW id rfl hA197
                        clear hN197
                        have he := he.trans (hx197.sub (jsub_of rfl))
                        have hkp := hkp.trans (jkc.of hx197 (jnot_of rfl))
                        have ha0 := ha0.mono hx197.1
                        have hb25t30 := hb25t30.mono hx197.1
                        have hb61 := hb61.mono hx197.1
                        have hb75 := hb75.mono hx197.1
                        have hOgs81a0 := hx197.2 _ _ hOgs81a0 (jnot_of rfl)
                        have hKgs81a0 := hKgs81a0.mono hx197.1
                        have hA182 := hx197.2 _ _ hA182 (jnot_of rfl)
                        have hA190 := hx197.2 _ _ hA190 (jnot_of rfl)
                        refine J_iload dX7_countWays_198 rfl ?_
                        refine J_aload_n dX7_countWays_200 rfl ?_
                        obtain ⟨w201, hF201, y201, rfl, hl201, hh201⟩ := hKgs81a0.2 23 (.inl (2, 6)) rfl
                        dsimp only at hl201 hh201
                        refine J_get jf_X7_73 dX7_countWays_201 hOgs81a0 hF201 ?_
                        refine J_aload_n dX7_countWays_204 rfl ?_
                        obtain ⟨w205, hF205, y205, rfl, hl205, hh205⟩ := hKgs81a0.2 24 (.inl (2, 6)) rfl
                        dsimp only at hl205 hh205
                        refine J_get jf_X7_77 dX7_countWays_205 hOgs81a0 hF205 ?_
                        refine Jz_imulM 6 jEq.rf jEq.rf dX7_countWays_208 (by omega) (by omega) (by omega) (by omega) (fun y208 he208 hf208 => ?_)
                        refine Jz_iconst 1 dX7_countWays_209 (by decide) (fun y209 he209 => ?_)
                        refine Jz_isub jEq.rf he209 dX7_countWays_210 (by omega) (by omega) (fun y210 he210 => ?_)
                        refine Jz_icmp_ne (tgt := 245) jEq.rf he210 dX7_countWays_211 (by decide) (fun c211 => ?_) (fun c211 => ?_)
                        · refine J_goto (tgt := 81) dX7_countWays_245 (by decide) ?_
                          have hm0 : (F32n81 i2n81.toInt.toNat).toInt = y91.toInt := by rw [hf91]
                          have hm1 : (G197 (i2n81.toInt + 1).toNat).toInt = -1 := by rw [hp197, he196.eq]
                          have hup := jcn_up (c := 0) (show (F44n81 y136.toInt.toNat).toInt = 0 by rw [hf153]; exact c154) (by rw [hp190, he189.eq]; decide) ho190 36 (by omega)
                          refine J.mask [true, true, true, true, false] ?_
                          exact ih81 _ y157 y172 gs81a0 G190 G182 G197 hW he ha0 hb25t30 hb61 hb75 hkp hOgs81a0 hFgs81a0_30 hFgs81a0_31 hFgs81a0_32 hA190 hA182 hA197 (by (try simp only [he157.eq, he172.eq, true_and, and_true]) <;> omega) (by (try simp only [he157.eq, he172.eq, true_and, and_true]) <;> omega) (fun k hk => by rw [he172.eq] at hk; exact (Nat.decEq k (i2n81.toInt + 1).toNat).byCases (fun hq => by rw [hq, hp197, he196.eq]; omega) (fun hq => by rw [ho197 k hq]; exact (Nat.decEq k i2n81.toInt.toNat).byCases (fun hq => by rw [hq, hp94, he93.eq]; omega) (fun hq => by rw [ho94 k hq]; exact htry k (by omega)))) (fun k hk => by rw [he172.eq] at hk; exact (Nat.decEq k (i2n81.toInt + 1).toNat).byCases (fun hq => by rw [hq, hp182, hp190, he189.eq]; omega) (fun hq => by rw [ho182 k hq]; have h1 := hway k (by omega); exact ⟨h1.1, h1.2.1, (Nat.decEq (F31n81 k).toInt.toNat y136.toInt.toNat).byCases (fun h9 => by rw [h9, hp190, he189.eq]; decide) (fun h9 => by rw [ho190 _ h9]; exact h1.2.2)⟩)) (fun i j h1 h2 => by rw [he172.eq] at h2; exact (Nat.decEq j (i2n81.toInt + 1).toNat).byCases (fun hq => by rw [hq, hp182, ho182 i (by omega)]; intro h9; have h3 := (hway i (by omega)).2.2; rw [h9, hf153] at h3; exact h3 c154) (fun hq => by rw [ho182 j hq, ho182 i (by omega)]; exact hdis i j h1 (by omega))) (by (try simp only [he157.eq, he172.eq, true_and, and_true]) <;> omega) (by (try simp only [he157.eq, he172.eq, true_and, and_true]) <;> omega)
                        · refine J_aload_n dX7_countWays_214 rfl ?_
                          obtain ⟨w215, hF215, b215, rfl, hb215⟩ := hKgs81a0.2 29 (.inr (some (.inl 30))) rfl
                          refine J_get jf_X7_83 dX7_countWays_215 hOgs81a0 hF215 ?_
                          refine J_iload_n dX7_countWays_218 rfl ?_
                          refine J_dup2 dX7_countWays_219 rfl rfl ?_
                          obtain ⟨n220, f220, hA220, hN220, hM220, hv220⟩ := WT_arrI (r := (-2147483648, 2147483647)) hW id rfl hb215
                          obtain rfl := hM220 36 rfl
                          clear hN220 hM220
                          refine Jz_ialdw he172 dX7_countWays_220 hA220 rfl (by omega) (by omega) (fun y220 => ?_)
                          refine Jz_iconst 1 dX7_countWays_221 (by decide) (fun y221 he221 => ?_)
                          refine Jz_iaddw dX7_countWays_222 (fun y222  => ?_)
                          refine Jz_iastw (r := ((-2147483648), 2147483647)) he172 jEq.rf hW id dX7_countWays_223 hA220 rfl rfl (by omega) (by omega) (j_rng _).1 (j_rng _).2 (fun V223 hW hx223 => ?_)
                          have he := he.trans (hx223.sub (jsub_of rfl))
                          have hkp := hkp.trans (jkc.of hx223 (jnot_of rfl))
                          have ha0 := ha0.mono hx223.1
                          have hb25t30 := hb25t30.mono hx223.1
                          have hb61 := hb61.mono hx223.1
                          have hb75 := hb75.mono hx223.1
                          have hb215 := hb215.mono hx223.1
                          have hOgs81a0 := hx223.2 _ _ hOgs81a0 (jnot_of rfl)
                          have hKgs81a0 := hKgs81a0.mono hx223.1
                          have hA182 := hx223.2 _ _ hA182 (jnot_of rfl)
                          have hA190 := hx223.2 _ _ hA190 (jnot_of rfl)
                          have hA197 := hx223.2 _ _ hA197 (jnot_of rfl)
                          refine J_aload_n dX7_countWays_224 rfl ?_
                          refine J_dup dX7_countWays_225 rfl ?_
                          obtain ⟨w226, hF226, y226, rfl, hl226, hh226⟩ := hKgs81a0.2 28 (.inl ((-2147483648), 2147483647)) rfl
                          dsimp only at hl226 hh226
                          refine J_get jf_X7_221 dX7_countWays_226 hOgs81a0 hF226 ?_
                          refine J_iload_n dX7_countWays_229 rfl ?_
                          refine Jz_iconst 1 dX7_countWays_230 (by decide) (fun y230 he230 => ?_)
                          refine Jz_iadd he172 he230 dX7_countWays_231 (by omega) (by omega) (fun y231 he231 => ?_)
                          refine J_iload_n dX7_countWays_232 rfl ?_
                          have K241 : ∀ (t0k241 : Int32), J tS mX7_countWays d 241 [some (.ref a0), some (.int y157), some (.int y172), some (.int y56), some (.int y136)] [.int t0k241, .int y226, .ref a0] V223 0 0 (fun r V => (jPost [.inr 5, .inl 30, .inl 44, .inl 31, .inl 32] V0 rV) r V ∧ jkc 5 [0, 23, 24] V0 V) := by
                            intro  t0k241     
                            refine Jz_iaddw dX7_countWays_241 (fun y241  => ?_)
                            refine Jz_putI hOgs81a0 hW id rfl jf_X7_221 jt_X7_28 jEq.rf dX7_countWays_242 (j_rng _).1 (j_rng _).2 (fun _ _ => ⟨rfl, rfl⟩) (fun V242 fs242 hW hx242 hO242 hS242 hT242 hB242 => ?_)
                            have hK242 : jokO _ (jFs 5) fs242 := hW _ _ id hO242
                            have hF242_30 := (hT242 30 (by decide)).trans hFgs81a0_30
                            have hF242_31 := (hT242 31 (by decide)).trans hFgs81a0_31
                            have hF242_32 := (hT242 32 (by decide)).trans hFgs81a0_32
                            have hF242_23 := (hT242 23 (by decide)).trans hF201
                            have hF242_24 := (hT242 24 (by decide)).trans hF205
                            have hF242_29 := (hT242 29 (by decide)).trans hF215
                            have he := he.trans (hx242.sub (jsub_of rfl))
                            have hkp := hkp.trans (jkc.put hOgs81a0 hO242 hT242 hB242 (by decide))
                            have ha0 := ha0.mono hx242.1
                            have hb25t30 := hb25t30.mono hx242.1
                            have hb61 := hb61.mono hx242.1
                            have hb75 := hb75.mono hx242.1
                            have hb215 := hb215.mono hx242.1
                            have hA182 := hx242.2 _ _ hA182 (jnot_of rfl)
                            have hA190 := hx242.2 _ _ hA190 (jnot_of rfl)
                            have hA197 := hx242.2 _ _ hA197 (jnot_of rfl)
                            refine J_goto (tgt := 81) dX7_countWays_245 (by decide) ?_
                            have hm0 : (F32n81 i2n81.toInt.toNat).toInt = y91.toInt := by rw [hf91]
                            have hm1 : (G197 (i2n81.toInt + 1).toNat).toInt = -1 := by rw [hp197, he196.eq]
                            have hup := jcn_up (c := 0) (show (F44n81 y136.toInt.toNat).toInt = 0 by rw [hf153]; exact c154) (by rw [hp190, he189.eq]; decide) ho190 36 (by omega)
                            refine J.mask [true, true, true, true, false] ?_
                            exact ih81 _ y157 y172 fs242 G190 G182 G197 hW he ha0 hb25t30 hb61 hb75 hkp hO242 hF242_30 hF242_31 hF242_32 hA190 hA182 hA197 (by (try simp only [he157.eq, he172.eq, true_and, and_true]) <;> omega) (by (try simp only [he157.eq, he172.eq, true_and, and_true]) <;> omega) (fun k hk => by rw [he172.eq] at hk; exact (Nat.decEq k (i2n81.toInt + 1).toNat).byCases (fun hq => by rw [hq, hp197, he196.eq]; omega) (fun hq => by rw [ho197 k hq]; exact (Nat.decEq k i2n81.toInt.toNat).byCases (fun hq => by rw [hq, hp94, he93.eq]; omega) (fun hq => by rw [ho94 k hq]; exact htry k (by omega)))) (fun k hk => by rw [he172.eq] at hk; exact (Nat.decEq k (i2n81.toInt + 1).toNat).byCases (fun hq => by rw [hq, hp182, hp190, he189.eq]; omega) (fun hq => by rw [ho182 k hq]; have h1 := hway k (by omega); exact ⟨h1.1, h1.2.1, (Nat.decEq (F31n81 k).toInt.toNat y136.toInt.toNat).byCases (fun h9 => by rw [h9, hp190, he189.eq]; decide) (fun h9 => by rw [ho190 _ h9]; exact h1.2.2)⟩)) (fun i j h1 h2 => by rw [he172.eq] at h2; exact (Nat.decEq j (i2n81.toInt + 1).toNat).byCases (fun hq => by rw [hq, hp182, ho182 i (by omega)]; intro h9; have h3 := (hway i (by omega)).2.2; rw [h9, hf153] at h3; exact h3 c154) (fun hq => by rw [ho182 j hq, ho182 i (by omega)]; exact hdis i j h1 (by omega))) (by (try simp only [he157.eq, he172.eq, true_and, and_true]) <;> omega) (by (try simp only [he157.eq, he172.eq, true_and, and_true]) <;> omega)
                          refine Jz_icmp_ne (tgt := 240) he231 jEq.rf dX7_countWays_233 (by decide) (fun c233 => ?_) (fun c233 => ?_)
                          · refine Jz_iconst 0 dX7_countWays_240 (by decide) (fun y240 he240 => ?_)
                            exact K241  y240  
                          · refine Jz_iconst 1 dX7_countWays_236 (by decide) (fun y236 he236 => ?_)
                            refine J_goto (tgt := 241) dX7_countWays_237 (by decide) ?_
                            exact K241  y236  
                      · refine J_aload_n dX7_countWays_166 rfl ?_
                        refine Jz_iconst 1 dX7_countWays_167 (by decide) (fun y167 he167 => ?_)
                        refine Jz_putI hOgs81a0 hW id rfl jf_X7_218 jt_X7_27 he167 dX7_countWays_168 (by omega) (by omega) (fun _ h => ⟨nar_b (by omega) (by omega), fit_b (by omega) (by omega)⟩) (fun V168 fs168 hW hx168 hO168 hS168 hT168 hB168 => ?_)
                        have hK168 : jokO _ (jFs 5) fs168 := hW _ _ id hO168
                        have hF168_30 := (hT168 30 (by decide)).trans hFgs81a0_30
                        have hF168_31 := (hT168 31 (by decide)).trans hFgs81a0_31
                        have hF168_32 := (hT168 32 (by decide)).trans hFgs81a0_32
                        have he := he.trans (hx168.sub (jsub_of rfl))
                        have hkp := hkp.trans (jkc.put hOgs81a0 hO168 hT168 hB168 (by decide))
                        have ha0 := ha0.mono hx168.1
                        have hb25t30 := hb25t30.mono hx168.1
                        have hb61 := hb61.mono hx168.1
                        have hb75 := hb75.mono hx168.1
                        have hAF44n81 := hx168.2 _ _ hAF44n81 (jnot_of rfl)
                        have hAF31n81 := hx168.2 _ _ hAF31n81 (jnot_of rfl)
                        have hA94 := hx168.2 _ _ hA94 (jnot_of rfl)
                        exact J_ret (r := none) dX7_countWays_171 ⟨rfl, rfl⟩ (⟨⟨hW, he, rfl⟩, hkp⟩)
                · refine J_aload_n dX7_countWays_105 rfl ?_
                  refine J_get jf_X7_86 dX7_countWays_106 hOgs81a0 hFgs81a0_30 ?_
                  refine J_aload_n dX7_countWays_109 rfl ?_
                  refine J_get jf_X7_89 dX7_countWays_110 hOgs81a0 hFgs81a0_31 ?_
                  refine J_iload_n dX7_countWays_113 rfl ?_
                  refine Jz_iald (r := (0, 35)) jEq.rf dX7_countWays_114 hAF31n81 rfl hvF31n81 (by omega) (by omega) (fun y114 hf114 hl114 hh114 => ?_)
                  dsimp only at hl114 hh114
                  have hb114 := hway i2n81.toInt.toNat (by omega)
                  rw [hf114] at hb114
                  refine Jz_iconst 0 dX7_countWays_115 (by decide) (fun y115 he115 => ?_)
                  refine Jz_zast (r := (0, 1)) jEq.rf he115 hW id dX7_countWays_116 hAF44n81 rfl rfl (by omega) (by omega) (by omega) (by omega) (fun _ h => vp_nar_b (by omega) (by omega)) (fun V116 G116 hW hx116 hA116 hp116 ho116 => ?_)
                  obtain ⟨hN116, hv116⟩ := WT_rngI (r := (0, 1)) hW id rfl hA116
                  clear hN116
                  have he := he.trans (hx116.sub (jsub_of rfl))
                  have hkp := hkp.trans (jkc.of hx116 (jnot_of rfl))
                  have ha0 := ha0.mono hx116.1
                  have hb25t30 := hb25t30.mono hx116.1
                  have hb61 := hb61.mono hx116.1
                  have hb75 := hb75.mono hx116.1
                  have hOgs81a0 := hx116.2 _ _ hOgs81a0 (jnot_of rfl)
                  have hKgs81a0 := hKgs81a0.mono hx116.1
                  have hAF31n81 := hx116.2 _ _ hAF31n81 (jnot_of rfl)
                  have hA94 := hx116.2 _ _ hA94 (jnot_of rfl)
                  refine Jz_iinc (-1) dX7_countWays_117 rfl rfl (by decide) jEq.rf (by decide) (by omega) (by omega) (fun y117 he117 => ?_)
                  refine J_goto (tgt := 81) dX7_countWays_120 (by decide) ?_
                  have hm0 : (F32n81 i2n81.toInt.toNat).toInt = y91.toInt := by rw [hf91]
                  have hm1 : -1 ≤ (G94 (i2n81.toInt + (-1)).toNat).toInt := (Int.decLt i2n81.toInt 1).byCases (fun hz => by rw [show (i2n81.toInt + (-1)).toNat = i2n81.toInt.toNat by omega, hp94, he93.eq]; omega) (fun hz => by rw [ho94 _ (by omega)]; exact (htry _ (by omega)).1)
                  have hdn := jcn_dn (c := 0) hb114.2.2 (by rw [hp116, he115.eq]) ho116 (n := 36) (by omega)
                  refine J.mask [true, true, true, true, false] ?_
                  exact ih81 _ i1n81 y117 gs81a0 G116 F31n81 G94 hW he ha0 hb25t30 hb61 hb75 hkp hOgs81a0 hFgs81a0_30 hFgs81a0_31 hFgs81a0_32 hA116 hAF31n81 hA94 (by (try simp only [he117.eq, true_and, and_true]) <;> omega) (by (try simp only [he117.eq, true_and, and_true]) <;> omega) (fun k hk => by rw [he117.eq] at hk; rw [ho94 k (by omega)]; exact htry k (by omega)) (fun k hk => by rw [he117.eq] at hk; have h1 := hway k (by omega); have h2 := hdis k i2n81.toInt.toNat (by omega) (by omega); rw [hf114] at h2; rw [ho116 _ (by omega)]; exact h1) (fun i j h1 h2 => by rw [he117.eq] at h2; exact hdis i j h1 (by omega)) (by (try simp only [he117.eq, true_and, and_true]) <;> omega) (by (try simp only [he117.eq, true_and, and_true]) <;> omega)
          refine J.mask [true, true, true, true, false] ?_
          exact L81 _ _ y51 y53 fs20 G73 G66 G80 hW he ha0 hb25t30 hb61 hb75 hkp hO20 hF25t30 hF61 hF75 hA73 hA66 hA80 (by (try simp only [he51.eq, he53.eq, true_and, and_true]) <;> omega) (by (try simp only [he51.eq, he53.eq, true_and, and_true]) <;> omega) (fun k hk => by rw [he53.eq] at hk; rw [show k = Int.toNat 0 by omega, hp80, he79.eq]; omega) (fun k hk => by rw [he53.eq] at hk; rw [show k = Int.toNat 0 by omega, hp66, he65.eq, hp73, he72.eq]; omega) (fun i j h1 h2 => by rw [he53.eq] at h2; omega) (by rw [he53.eq, jcn_one (n := 36) (show ¬ (G73 (Int.toNat 0)).toInt = 0 by rw [hp73, he72.eq]; decide) (fun k h1 h2 => by rw [ho73 k (by show k ≠ 0; omega)]; exact hz k (by omega)) (by omega)]; rfl) (Nat.lt_succ_self _)
        · refine J_aload_n dX7_countWays_31 rfl ?_
          obtain ⟨w32, hF32, b32, rfl, hb32⟩ := hK20.2 29 (.inr (some (.inl 30))) rfl
          refine J_get jf_X7_83 dX7_countWays_32 hO20 hF32 ?_
          refine J_iload_n dX7_countWays_35 rfl ?_
          refine Jz_iconst 0 dX7_countWays_36 (by decide) (fun y36 he36 => ?_)
          obtain ⟨n37, f37, hA37, hN37, hM37, hv37⟩ := WT_arrI (r := (-2147483648, 2147483647)) hW id rfl hb32
          obtain rfl := hM37 36 rfl
          clear hN37 hM37
          refine Jz_iastw (r := ((-2147483648), 2147483647)) jEq.rf he36 hW id dX7_countWays_37 hA37 rfl rfl (by omega) (by omega) (by omega) (by omega) (fun V37 hW hx37 => ?_)
          have he := he.trans (hx37.sub (jsub_of rfl))
          have hkp := hkp.trans (jkc.of hx37 (jnot_of rfl))
          have ha0 := ha0.mono hx37.1
          have hb25t30 := hb25t30.mono hx37.1
          have hb32 := hb32.mono hx37.1
          have hO20 := hx37.2 _ _ hO20 (jnot_of rfl)
          have hK20 := hK20.mono hx37.1
          have hAF44n25 := hx37.2 _ _ hAF44n25 (jnot_of rfl)
          refine J_aload_n dX7_countWays_38 rfl ?_
          refine J_get jf_X7_86 dX7_countWays_39 hO20 hF25t30 ?_
          refine J_iload_n dX7_countWays_42 rfl ?_
          refine Jz_iconst 0 dX7_countWays_43 (by decide) (fun y43 he43 => ?_)
          refine Jz_zast (r := (0, 1)) jEq.rf he43 hW id dX7_countWays_44 hAF44n25 rfl rfl (by omega) (by omega) (by omega) (by omega) (fun _ h => vp_nar_b (by omega) (by omega)) (fun V44 G44 hW hx44 hA44 hp44 ho44 => ?_)
          obtain ⟨hN44, hv44⟩ := WT_rngI (r := (0, 1)) hW id rfl hA44
          clear hN44
          have he := he.trans (hx44.sub (jsub_of rfl))
          have hkp := hkp.trans (jkc.of hx44 (jnot_of rfl))
          have ha0 := ha0.mono hx44.1
          have hb25t30 := hb25t30.mono hx44.1
          have hb32 := hb32.mono hx44.1
          have hO20 := hx44.2 _ _ hO20 (jnot_of rfl)
          have hK20 := hK20.mono hx44.1
          refine Jz_iinc 1 dX7_countWays_45 rfl rfl (by decide) jEq.rf (by decide) (by omega) (by omega) (fun y45 he45 => ?_)
          refine J_goto (tgt := 25) dX7_countWays_48 (by decide) ?_
          refine J.mask [true, true, false, false, false] ?_
          exact ih25 _ y45 G44 hW he ha0 hb25t30 hkp hO20 hK20 hA44 (by (try simp only [he45.eq, true_and, and_true]) <;> omega) (fun k hk => by rw [he45.eq] at hk; exact (Nat.decEq k i1n25.toInt.toNat).byCases (fun hq => by rw [hq, hp44, he43.eq]) (fun hq => by rw [ho44 k hq]; exact hz k (by omega))) (by (try simp only [he45.eq, true_and, and_true]) <;> omega)
    refine J.mask [true, true, false, false, false] ?_
    exact L25 _ _ y23 f25tb25t30 hW he ha0 hb25t30 hkp hO20 hK20 hA25tb25t30 (by (try simp only [he23.eq, true_and, and_true]) <;> omega) (fun k hk => by rw [he23.eq] at hk; omega) (Nat.lt_succ_self _)
  · exact J_ret (r := none) dX7_countWays_7 ⟨rfl, rfl⟩ (⟨⟨hW, he, rfl⟩, hkp⟩)
set_option maxRecDepth 100000 in
set_option maxHeartbeats 8000000 in
theorem w_X7_ways {tS : jTS} (d : Nat) (V0 : jH) (a0 : Nat) (x1 : Int32) (hd : 3 ≤ d) (hW : WT V0) (ha0 : jis V0 (.inr 5) a0) (hl1 : 0 ≤ x1.toInt) (hh1 : x1.toInt ≤ 1) : jTot tS mX7_ways d [.ref a0, .int x1] V0 0 0 (fun r V => (jPost [.inr 5, .inl 30, .inl 44, .inl 31, .inl 32] V0 (fun r _ => ∃ y : Int32, r = some (.int y) ∧ ((-2147483648) ≤ y.toInt) ∧ (y.toInt ≤ 2147483647))) r V ∧ jkc 5 [0, 23, 24] V0 V) := by
  refine jTot.of_J [some (.ref a0), some (.int x1), none, none] moX7_ways (Nat.le_of_ble_eq_true rfl) rfl ?_
  have he : jeff [.inr 5, .inl 30, .inl 44, .inl 31, .inl 32] V0 V0 := jeff.refl _ _
  have hkp : jkc 5 [0, 23, 24] V0 V0 := jkc.rf
  refine J_aload_n dX7_ways_0 rfl ?_
  refine Jw_callV0 (q9 := (RX7, TX7, 34)) moX7_countWays jw_ml_X7_230 jw_im_X7_countWays jw_se_X7_countWays ha0 rfl rfl dX7_ways_1 (w_X7_countWays (d - 1) _ a0 (by omega) hW  ha0) (by omega) (Nat.zero_le _) (Nat.zero_le _) (Nat.le_of_ble_eq_true rfl) (fun r1 V1 h1 => ?_)
  obtain ⟨h1, hX1_0⟩ := h1
  obtain ⟨hW, hx1, hr1⟩ := h1
  have he := he.trans (hx1.sub (jsub_of rfl))
  have hkp := hkp.trans hX1_0
  have ha0 := ha0.mono hx1.1
  cases hr1
  refine J_aload_n dX7_ways_4 rfl ?_
  obtain ⟨fs5, hO5, hK5⟩ := WT_obj hW id ha0
  obtain ⟨w5, hF5, y5, rfl, hl5, hh5⟩ := hK5.2 27 (.inl (0, 1)) rfl
  dsimp only at hl5 hh5
  refine J_get jf_X7_218 dX7_ways_5 hO5 hF5 ?_
  refine Jz_if_eq (tgt := 14) jEq.rf dX7_ways_8 (by decide) (fun c8 => ?_) (fun c8 => ?_)
  · refine Jz_iconst 0 dX7_ways_14 (by decide) (fun y14 he14 => ?_)
    refine J_istore_n dX7_ways_15 rfl (by decide) ?_
    refine Jz_iconst 0 dX7_ways_16 (by decide) (fun y16 he16 => ?_)
    refine J_istore_n dX7_ways_17 rfl (by decide) ?_
    have L18 : ∀ (N : Nat) (V : jH) (i2n18 : Int32) (i3n18 : Int32), WT V → jeff [.inr 5, .inl 30, .inl 44, .inl 31, .inl 32] V0 V → (jis V (.inr 5) a0) → (jkc 5 [0, 23, 24] V0 V) → (V a0 = some (.inr (5, fs5))) → (jokO V (jFs 5) fs5) → (0 ≤ i3n18.toInt) → (300 - i3n18.toInt).toNat < N → J tS mX7_ways d 18 [some (.ref a0), some (.int x1), some (.int i2n18), some (.int i3n18)] [] V 0 0 (fun r V => (jPost [.inr 5, .inl 30, .inl 44, .inl 31, .inl 32] V0 (fun r _ => ∃ y : Int32, r = some (.int y) ∧ ((-2147483648) ≤ y.toInt) ∧ (y.toInt ≤ 2147483647))) r V ∧ jkc 5 [0, 23, 24] V0 V) := by
      intro N
      induction N with
      | zero => intro V i2n18 i3n18 hW he ha0 hkp hO5 hK5 hi3 hm; exact absurd hm (Nat.not_lt_zero _)
      | succ N ih =>
        intro V i2n18 i3n18 hW he ha0 hkp hO5 hK5 hi3 hm
        have ih18 := ih
        have hri3 := j_rng i3n18
        refine J_iload_n dX7_ways_18 rfl ?_
        refine Jz_bipush 36 dX7_ways_19 (by decide) (fun y19 he19 => ?_)
        refine Jz_icmp_ge (tgt := 39) jEq.rf he19 dX7_ways_21 (by decide) (fun c21 => ?_) (fun c21 => ?_)
        · refine J_iload_n dX7_ways_39 rfl ?_
          refine Jz_if_eq (tgt := 50) jEq.rf dX7_ways_40 (by decide) (fun c40 => ?_) (fun c40 => ?_)
          · refine J_iload_n dX7_ways_50 rfl ?_
            exact J_ret (r := some (.int _)) dX7_ways_51 ⟨rfl, _, rfl, rfl⟩ (⟨⟨hW, he, ⟨_, rfl, (j_rng _).1, (j_rng _).2⟩⟩, hkp⟩)
          · refine J_aload_n dX7_ways_43 rfl ?_
            obtain ⟨w44, hF44, y44, rfl, hl44, hh44⟩ := hK5.2 28 (.inl ((-2147483648), 2147483647)) rfl
            dsimp only at hl44 hh44
            refine J_get jf_X7_221 dX7_ways_44 hO5 hF44 ?_
            refine J_goto (tgt := 51) dX7_ways_47 (by decide) ?_
            exact J_ret (r := some (.int _)) dX7_ways_51 ⟨rfl, _, rfl, rfl⟩ (⟨⟨hW, he, ⟨_, rfl, (j_rng _).1, (j_rng _).2⟩⟩, hkp⟩)
        · refine J_iload_n dX7_ways_24 rfl ?_
          refine J_aload_n dX7_ways_25 rfl ?_
          obtain ⟨w26, hF26, b26, rfl, hb26⟩ := hK5.2 29 (.inr (some (.inl 30))) rfl
          refine J_get jf_X7_83 dX7_ways_26 hO5 hF26 ?_
          refine J_iload_n dX7_ways_29 rfl ?_
          obtain ⟨n30, f30, hA30, hN30, hM30, hv30⟩ := WT_arrI (r := (-2147483648, 2147483647)) hW id rfl hb26
          obtain rfl := hM30 36 rfl
          clear hN30 hM30
          refine Jz_ialdw jEq.rf dX7_ways_30 hA30 rfl (by omega) (by omega) (fun y30 => ?_)
          refine Jz_iaddw dX7_ways_31 (fun y31  => ?_)
          refine J_istore_n dX7_ways_32 rfl (by decide) ?_
          refine Jz_iinc 1 dX7_ways_33 rfl rfl (by decide) jEq.rf (by decide) (by omega) (by omega) (fun y33 he33 => ?_)
          refine J_goto (tgt := 18) dX7_ways_36 (by decide) ?_
          refine J.mask [true, true, true, true] ?_
          exact ih18 _ y31 y33 hW he ha0 hkp hO5 hK5 (by (try simp only [he33.eq, true_and, and_true]) <;> omega) (by (try simp only [he33.eq, true_and, and_true]) <;> omega)
    refine J.mask [true, true, true, true] ?_
    exact L18 _ _ y14 y16 hW he ha0 hkp hO5 hK5 (by (try simp only [he14.eq, he16.eq, true_and, and_true]) <;> omega) (Nat.lt_succ_self _)
  · refine Jz_bipush (-5) dX7_ways_11 (by decide) (fun y11 he11 => ?_)
    exact J_ret (r := some (.int _)) dX7_ways_13 ⟨rfl, _, rfl, rfl⟩ (⟨⟨hW, he, ⟨_, rfl, (j_rng _).1, (j_rng _).2⟩⟩, hkp⟩)
set_option maxRecDepth 100000 in
set_option maxHeartbeats 8000000 in
theorem w_X7_waysOf {tS : jTS} (d : Nat) (V0 : jH) (a0 : Nat) (x1 : Int32) (hd : 3 ≤ d) (hW : WT V0) (ha0 : jis V0 (.inr 5) a0) : jTot tS mX7_waysOf d [.ref a0, .int x1] V0 0 0 (fun r V => (jPost [.inr 5, .inl 30, .inl 44, .inl 31, .inl 32] V0 (fun r _ => ∃ y : Int32, r = some (.int y) ∧ ((-2147483648) ≤ y.toInt) ∧ (y.toInt ≤ 2147483647))) r V ∧ jkc 5 [0, 23, 24] V0 V) := by
  refine jTot.of_J [some (.ref a0), some (.int x1)] moX7_waysOf (Nat.le_of_ble_eq_true rfl) rfl ?_
  have hrx1 := j_rng x1
  have he : jeff [.inr 5, .inl 30, .inl 44, .inl 31, .inl 32] V0 V0 := jeff.refl _ _
  have hkp : jkc 5 [0, 23, 24] V0 V0 := jkc.rf
  refine J_iload_n dX7_waysOf_0 rfl ?_
  refine Jz_if_ge (tgt := 7) jEq.rf dX7_waysOf_1 (by decide) (fun c1 => ?_) (fun c1 => ?_)
  · refine J_aload_n dX7_waysOf_7 rfl ?_
    refine Jw_callV0 (q9 := (RX7, TX7, 34)) moX7_countWays jw_ml_X7_230 jw_im_X7_countWays jw_se_X7_countWays ha0 rfl rfl dX7_waysOf_8 (w_X7_countWays (d - 1) _ a0 (by omega) hW  ha0) (by omega) (Nat.zero_le _) (Nat.zero_le _) (Nat.le_of_ble_eq_true rfl) (fun r8 V8 h8 => ?_)
    obtain ⟨h8, hX8_0⟩ := h8
    obtain ⟨hW, hx8, hr8⟩ := h8
    have he := he.trans (hx8.sub (jsub_of rfl))
    have hkp := hkp.trans hX8_0
    have ha0 := ha0.mono hx8.1
    cases hr8
    refine J_aload_n dX7_waysOf_11 rfl ?_
    obtain ⟨fs12, hO12, hK12⟩ := WT_obj hW id ha0
    obtain ⟨w12, hF12, y12, rfl, hl12, hh12⟩ := hK12.2 27 (.inl (0, 1)) rfl
    dsimp only at hl12 hh12
    refine J_get jf_X7_218 dX7_waysOf_12 hO12 hF12 ?_
    refine Jz_if_eq (tgt := 23) jEq.rf dX7_waysOf_15 (by decide) (fun c15 => ?_) (fun c15 => ?_)
    · refine J_iload_n dX7_waysOf_23 rfl ?_
      refine Jz_bipush 36 dX7_waysOf_24 (by decide) (fun y24 he24 => ?_)
      refine Jz_icmp_ge (tgt := 38) jEq.rf he24 dX7_waysOf_26 (by decide) (fun c26 => ?_) (fun c26 => ?_)
      · refine Jz_iconst 0 dX7_waysOf_38 (by decide) (fun y38 he38 => ?_)
        exact J_ret (r := some (.int _)) dX7_waysOf_39 ⟨rfl, _, rfl, rfl⟩ (⟨⟨hW, he, ⟨_, rfl, (j_rng _).1, (j_rng _).2⟩⟩, hkp⟩)
      · refine J_aload_n dX7_waysOf_29 rfl ?_
        obtain ⟨w30, hF30, b30, rfl, hb30⟩ := hK12.2 29 (.inr (some (.inl 30))) rfl
        refine J_get jf_X7_83 dX7_waysOf_30 hO12 hF30 ?_
        refine J_iload_n dX7_waysOf_33 rfl ?_
        obtain ⟨n34, f34, hA34, hN34, hM34, hv34⟩ := WT_arrI (r := (-2147483648, 2147483647)) hW id rfl hb30
        obtain rfl := hM34 36 rfl
        clear hN34 hM34
        refine Jz_ialdw jEq.rf dX7_waysOf_34 hA34 rfl (by omega) (by omega) (fun y34 => ?_)
        refine J_goto (tgt := 39) dX7_waysOf_35 (by decide) ?_
        exact J_ret (r := some (.int _)) dX7_waysOf_39 ⟨rfl, _, rfl, rfl⟩ (⟨⟨hW, he, ⟨_, rfl, (j_rng _).1, (j_rng _).2⟩⟩, hkp⟩)
    · refine Jz_bipush (-5) dX7_waysOf_18 (by decide) (fun y18 he18 => ?_)
      refine J_goto (tgt := 39) dX7_waysOf_20 (by decide) ?_
      exact J_ret (r := some (.int _)) dX7_waysOf_39 ⟨rfl, _, rfl, rfl⟩ (⟨⟨hW, he, ⟨_, rfl, (j_rng _).1, (j_rng _).2⟩⟩, hkp⟩)
  · refine Jz_bipush (-2) dX7_waysOf_4 (by decide) (fun y4 he4 => ?_)
    exact J_ret (r := some (.int _)) dX7_waysOf_6 ⟨rfl, _, rfl, rfl⟩ (⟨⟨hW, he, ⟨_, rfl, (j_rng _).1, (j_rng _).2⟩⟩, hkp⟩)
set_option maxRecDepth 100000 in
set_option maxHeartbeats 8000000 in
theorem w_X7_shortest {tS : jTS} (d : Nat) (V0 : jH) (a0 : Nat) (hd : 2 ≤ d) (hW : WT V0) (ha0 : jis V0 (.inr 5) a0) : jTot tS mX7_shortest d [.ref a0] V0 0 0 (fun r V => (jPost [.inr 5, .inl 33, .inl 29] V0 (fun r _ => ∃ y : Int32, r = some (.int y) ∧ ((-2147483648) ≤ y.toInt) ∧ (y.toInt ≤ 2147483647))) r V ∧ jkc 5 [0, 23, 24] V0 V) := by
  refine jTot.of_J [some (.ref a0), none, none, none] moX7_shortest (Nat.le_of_ble_eq_true rfl) rfl ?_
  have he : jeff [.inr 5, .inl 33, .inl 29] V0 V0 := jeff.refl _ _
  have hkp : jkc 5 [0, 23, 24] V0 V0 := jkc.rf
  refine Jz_iconst 0 dX7_shortest_0 (by decide) (fun y0 he0 => ?_)
  refine J_istore_n dX7_shortest_1 rfl (by decide) ?_
  obtain ⟨fs2t33, hO2t33, hK2t33⟩ := WT_obj hW id ha0
  obtain ⟨w2t33, hF2t33, b2t33, rfl, hb2t33⟩ := hK2t33.2 33 (.inr (some (.inl 33))) rfl
  obtain ⟨n2tb2t33, f2tb2t33, hA2tb2t33, hN2tb2t33, hM2tb2t33, hv2tb2t33⟩ := WT_arrI (r := (-1, 35)) hW id rfl hb2t33
  obtain rfl := hM2tb2t33 36 rfl
  clear hN2tb2t33 hM2tb2t33
  have L2 : ∀ (N : Nat) (V : jH) (i1n2 : Int32) (F33n2 : Nat → Int32), WT V → jeff [.inr 5, .inl 33, .inl 29] V0 V → (jis V (.inr 5) a0) → (jis V (.inl 33) b2t33) → (jkc 5 [0, 23, 24] V0 V) → (V a0 = some (.inr (5, fs2t33))) → (jokO V (jFs 5) fs2t33) → (V b2t33 = some (.inl (33, 36, .inl F33n2))) → (0 ≤ i1n2.toInt) → (∀ k : Nat, (k : Int) < i1n2.toInt → (k = 0 → (F33n2 k).toInt = 0) ∧ (¬ k = 0 → (F33n2 k).toInt = -1)) → (300 - i1n2.toInt).toNat < N → J tS mX7_shortest d 2 [some (.ref a0), some (.int i1n2), none, none] [] V 0 0 (fun r V => (jPost [.inr 5, .inl 33, .inl 29] V0 (fun r _ => ∃ y : Int32, r = some (.int y) ∧ ((-2147483648) ≤ y.toInt) ∧ (y.toInt ≤ 2147483647))) r V ∧ jkc 5 [0, 23, 24] V0 V) := by
    intro N
    induction N with
    | zero => intro V i1n2 F33n2 hW he ha0 hb2t33 hkp hO2t33 hK2t33 hAF33n2 hi1 hz hm; exact absurd hm (Nat.not_lt_zero _)
    | succ N ih =>
      intro V i1n2 F33n2 hW he ha0 hb2t33 hkp hO2t33 hK2t33 hAF33n2 hi1 hz hm
      have ih2 := ih
      have hri1 := j_rng i1n2
      obtain ⟨hNF33n2, hvF33n2⟩ := WT_rngI (r := ((-1), 35)) hW id rfl hAF33n2
      clear hNF33n2
      refine J_iload_n dX7_shortest_2 rfl ?_
      refine Jz_bipush 36 dX7_shortest_3 (by decide) (fun y3 he3 => ?_)
      refine Jz_icmp_ge (tgt := 29) jEq.rf he3 dX7_shortest_5 (by decide) (fun c5 => ?_) (fun c5 => ?_)
      · refine J_aload_n dX7_shortest_29 rfl ?_
        refine Jz_iconst 1 dX7_shortest_30 (by decide) (fun y30 he30 => ?_)
        refine Jz_putI hO2t33 hW id rfl jf_X7_205 jt_X7_22 he30 dX7_shortest_31 (by omega) (by omega) (fun _ _ => ⟨rfl, rfl⟩) (fun V31 fs31 hW hx31 hO31 hS31 hT31 hB31 => ?_)
        have hK31 : jokO _ (jFs 5) fs31 := hW _ _ id hO31
        have hF31_33 := (hT31 33 (by decide)).trans hF2t33
        have he := he.trans (hx31.sub (jsub_of rfl))
        have hkp := hkp.trans (jkc.put hO2t33 hO31 hT31 hB31 (by decide))
        have ha0 := ha0.mono hx31.1
        have hb2t33 := hb2t33.mono hx31.1
        have hAF33n2 := hx31.2 _ _ hAF33n2 (jnot_of rfl)
        refine J_aload_n dX7_shortest_34 rfl ?_
        obtain ⟨w35, hF35, b35, rfl, hb35⟩ := hK31.2 21 (.inr (some (.inl 29))) rfl
        refine J_get jf_X7_70 dX7_shortest_35 hO31 hF35 ?_
        refine Jz_iconst 0 dX7_shortest_38 (by decide) (fun y38 he38 => ?_)
        refine Jz_iconst 0 dX7_shortest_39 (by decide) (fun y39 he39 => ?_)
        obtain ⟨n40, f40, hA40, hN40, hM40, hv40⟩ := WT_arrI (r := (0, 9999)) hW id rfl hb35
        obtain rfl := hM40 10000 rfl
        clear hN40 hM40
        refine Jz_iast (r := (0, 9999)) he38 he39 hW id dX7_shortest_40 hA40 rfl rfl (by omega) (by omega) (by omega) (by omega) (fun V40 G40 hW hx40 hA40 hp40 ho40 => ?_)
        obtain ⟨hN40, hv40⟩ := WT_rngI (r := (0, 9999)) hW id rfl hA40
        clear hN40
        have he := he.trans (hx40.sub (jsub_of rfl))
        have hkp := hkp.trans (jkc.of hx40 (jnot_of rfl))
        have ha0 := ha0.mono hx40.1
        have hb2t33 := hb2t33.mono hx40.1
        have hb35 := hb35.mono hx40.1
        have hO31 := hx40.2 _ _ hO31 (jnot_of rfl)
        have hK31 := hK31.mono hx40.1
        have hAF33n2 := hx40.2 _ _ hAF33n2 (jnot_of rfl)
        refine Jz_iconst 0 dX7_shortest_41 (by decide) (fun y41 he41 => ?_)
        refine J_istore_n dX7_shortest_42 rfl (by decide) ?_
        have L43 : ∀ (N : Nat) (V : jH) (i1n43 : Int32) (gs43a0 : List Value) (g22n43 : Int32) (F33n43 : Nat → Int32) (F29n43 : Nat → Int32), WT V → jeff [.inr 5, .inl 33, .inl 29] V0 V → (jis V (.inr 5) a0) → (jis V (.inl 33) b2t33) → (jis V (.inl 29) b35) → (jkc 5 [0, 23, 24] V0 V) → (V a0 = some (.inr (5, gs43a0))) → (gs43a0[22]? = some (.int g22n43)) → (gs43a0[33]? = some (.ref b2t33)) → (gs43a0[21]? = some (.ref b35)) → (V b2t33 = some (.inl (33, 36, .inl F33n43))) → (V b35 = some (.inl (29, 10000, .inl F29n43))) → (0 ≤ i1n43.toInt) → ((jcn (-1) F33n43 36 : Int) = g22n43.toInt) → (∀ j : Nat, (j : Int) < g22n43.toInt → 0 ≤ (F29n43 j).toInt ∧ (F29n43 j).toInt ≤ 35 ∧ 0 ≤ (F33n43 (F29n43 j).toInt.toNat).toInt ∧ (F33n43 (F29n43 j).toInt.toNat).toInt ≤ (j : Int)) → (300 - i1n43.toInt).toNat < N → J tS mX7_shortest d 43 [some (.ref a0), some (.int i1n43), none, none] [] V 0 0 (fun r V => (jPost [.inr 5, .inl 33, .inl 29] V0 (fun r _ => ∃ y : Int32, r = some (.int y) ∧ ((-2147483648) ≤ y.toInt) ∧ (y.toInt ≤ 2147483647))) r V ∧ jkc 5 [0, 23, 24] V0 V) := by
          intro N
          induction N with
          | zero => intro V i1n43 gs43a0 g22n43 F33n43 F29n43 hW he ha0 hb2t33 hb35 hkp hOgs43a0 hFgs43a0_22 hFgs43a0_33 hFgs43a0_21 hAF33n43 hAF29n43 hk hcnt hque hm; exact absurd hm (Nat.not_lt_zero _)
          | succ N ih =>
            intro V i1n43 gs43a0 g22n43 F33n43 F29n43 hW he ha0 hb2t33 hb35 hkp hOgs43a0 hFgs43a0_22 hFgs43a0_33 hFgs43a0_21 hAF33n43 hAF29n43 hk hcnt hque hm
            have ih43 := ih
            have hri1 := j_rng i1n43
            have hKgs43a0 : jokO V (jFs 5) gs43a0 := hW _ _ id hOgs43a0
            have hrgg22n43 : (-2147483648) ≤ g22n43.toInt ∧ g22n43.toInt ≤ 2147483647 := jok_rngI hKgs43a0 rfl hFgs43a0_22
            obtain ⟨hNF33n43, hvF33n43⟩ := WT_rngI (r := ((-1), 35)) hW id rfl hAF33n43
            clear hNF33n43
            obtain ⟨hNF29n43, hvF29n43⟩ := WT_rngI (r := (0, 9999)) hW id rfl hAF29n43
            clear hNF29n43
            have hle := jcn_le (c := -1) (F := F33n43) 36
            refine J_iload_n dX7_shortest_43 rfl ?_
            refine J_aload_n dX7_shortest_44 rfl ?_
            refine J_get jf_X7_205 dX7_shortest_45 hOgs43a0 hFgs43a0_22 ?_
            refine Jz_icmp_ge (tgt := 136) jEq.rf jEq.rf dX7_shortest_48 (by decide) (fun c48 => ?_) (fun c48 => ?_)
            · refine J_aload_n dX7_shortest_136 rfl ?_
              refine J_get jf_X7_95 dX7_shortest_137 hOgs43a0 hFgs43a0_33 ?_
              refine J_aload_n dX7_shortest_140 rfl ?_
              obtain ⟨w141, hF141, y141, rfl, hl141, hh141⟩ := hKgs43a0.2 23 (.inl (2, 6)) rfl
              dsimp only at hl141 hh141
              refine J_get jf_X7_73 dX7_shortest_141 hOgs43a0 hF141 ?_
              refine J_aload_n dX7_shortest_144 rfl ?_
              obtain ⟨w145, hF145, y145, rfl, hl145, hh145⟩ := hKgs43a0.2 24 (.inl (2, 6)) rfl
              dsimp only at hl145 hh145
              refine J_get jf_X7_77 dX7_shortest_145 hOgs43a0 hF145 ?_
              refine Jz_imulM 6 jEq.rf jEq.rf dX7_shortest_148 (by omega) (by omega) (by omega) (by omega) (fun y148 he148 hf148 => ?_)
              refine Jz_iconst 1 dX7_shortest_149 (by decide) (fun y149 he149 => ?_)
              refine Jz_isub jEq.rf he149 dX7_shortest_150 (by omega) (by omega) (fun y150 he150 => ?_)
              refine Jz_iald (r := ((-1), 35)) he150 dX7_shortest_151 hAF33n43 rfl hvF33n43 (by omega) (by omega) (fun y151 hf151 hl151 hh151 => ?_)
              dsimp only at hl151 hh151
              exact J_ret (r := some (.int _)) dX7_shortest_152 ⟨rfl, _, rfl, rfl⟩ (⟨⟨hW, he, ⟨_, rfl, (j_rng _).1, (j_rng _).2⟩⟩, hkp⟩)
            · refine Jz_iconst 0 dX7_shortest_51 (by decide) (fun y51 he51 => ?_)
              refine J_istore_n dX7_shortest_52 rfl (by decide) ?_
              have L53 : ∀ (N : Nat) (V : jH) (i2n53 : Int32) (gs53a0 : List Value) (g22n53 : Int32) (F33n53 : Nat → Int32) (F29n53 : Nat → Int32), WT V → jeff [.inr 5, .inl 33, .inl 29] V0 V → (jis V (.inr 5) a0) → (jis V (.inl 33) b2t33) → (jis V (.inl 29) b35) → (jkc 5 [0, 23, 24] V0 V) → (V a0 = some (.inr (5, gs53a0))) → (gs53a0[22]? = some (.int g22n53)) → (gs53a0[33]? = some (.ref b2t33)) → (gs53a0[21]? = some (.ref b35)) → (V b2t33 = some (.inl (33, 36, .inl F33n53))) → (V b35 = some (.inl (29, 10000, .inl F29n53))) → (0 ≤ i2n53.toInt) → (i1n43.toInt < g22n53.toInt) → ((jcn (-1) F33n53 36 : Int) = g22n53.toInt) → (∀ j : Nat, (j : Int) < g22n53.toInt → 0 ≤ (F29n53 j).toInt ∧ (F29n53 j).toInt ≤ 35 ∧ 0 ≤ (F33n53 (F29n53 j).toInt.toNat).toInt ∧ (F33n53 (F29n53 j).toInt.toNat).toInt ≤ (j : Int)) → (300 - i2n53.toInt).toNat < N → J tS mX7_shortest d 53 [some (.ref a0), some (.int i1n43), some (.int i2n53), none] [] V 0 0 (fun r V => (jPost [.inr 5, .inl 33, .inl 29] V0 (fun r _ => ∃ y : Int32, r = some (.int y) ∧ ((-2147483648) ≤ y.toInt) ∧ (y.toInt ≤ 2147483647))) r V ∧ jkc 5 [0, 23, 24] V0 V) := by
                intro N
                induction N with
                | zero => intro V i2n53 gs53a0 g22n53 F33n53 F29n53 hW he ha0 hb2t33 hb35 hkp hOgs53a0 hFgs53a0_22 hFgs53a0_33 hFgs53a0_21 hAF33n53 hAF29n53 hd hkq hcntb hqueb hm; exact absurd hm (Nat.not_lt_zero _)
                | succ N ih =>
                  intro V i2n53 gs53a0 g22n53 F33n53 F29n53 hW he ha0 hb2t33 hb35 hkp hOgs53a0 hFgs53a0_22 hFgs53a0_33 hFgs53a0_21 hAF33n53 hAF29n53 hd hkq hcntb hqueb hm
                  have ih53 := ih
                  have hri2 := j_rng i2n53
                  have hKgs53a0 : jokO V (jFs 5) gs53a0 := hW _ _ id hOgs53a0
                  have hrgg22n53 : (-2147483648) ≤ g22n53.toInt ∧ g22n53.toInt ≤ 2147483647 := jok_rngI hKgs53a0 rfl hFgs53a0_22
                  obtain ⟨hNF33n53, hvF33n53⟩ := WT_rngI (r := ((-1), 35)) hW id rfl hAF33n53
                  clear hNF33n53
                  obtain ⟨hNF29n53, hvF29n53⟩ := WT_rngI (r := (0, 9999)) hW id rfl hAF29n53
                  clear hNF29n53
                  have hle := jcn_le (c := -1) (F := F33n53) 36
                  refine J_iload_n dX7_shortest_53 rfl ?_
                  refine Jz_iconst 4 dX7_shortest_54 (by decide) (fun y54 he54 => ?_)
                  refine Jz_icmp_ge (tgt := 130) jEq.rf he54 dX7_shortest_55 (by decide) (fun c55 => ?_) (fun c55 => ?_)
                  · refine Jz_iinc 1 dX7_shortest_130 rfl rfl (by decide) jEq.rf (by decide) (by omega) (by omega) (fun y130 he130 => ?_)
                    refine J_goto (tgt := 43) dX7_shortest_133 (by decide) ?_
                    refine J.mask [true, true, false, false] ?_
                    exact ih43 _ y130 gs53a0 g22n53 F33n53 F29n53 hW he ha0 hb2t33 hb35 hkp hOgs53a0 hFgs53a0_22 hFgs53a0_33 hFgs53a0_21 hAF33n53 hAF29n53 (by (try simp only [he130.eq, true_and, and_true]) <;> omega) (by (try simp only [he130.eq, true_and, and_true]) <;> omega) hqueb (by (try simp only [he130.eq, true_and, and_true]) <;> omega)
                  · refine J_aload_n dX7_shortest_58 rfl ?_
                    refine J_aload_n dX7_shortest_59 rfl ?_
                    refine J_get jf_X7_70 dX7_shortest_60 hOgs53a0 hFgs53a0_21 ?_
                    refine J_iload_n dX7_shortest_63 rfl ?_
                    refine Jz_iald (r := (0, 9999)) jEq.rf dX7_shortest_64 hAF29n53 rfl hvF29n53 (by omega) (by omega) (fun y64 hf64 hl64 hh64 => ?_)
                    dsimp only at hl64 hh64
                    have hb64 := hqueb i1n43.toInt.toNat (by omega)
                    rw [hf64] at hb64
                    refine J_iload_n dX7_shortest_65 rfl ?_
                    refine Jw_callV2 (q9 := (RX7, TX7, 34)) moX7_next jw_ml_X7_227 jw_im_X7_next jw_se_X7_next ha0 rfl rfl dX7_shortest_66 (w_X7_next (d - 1) _ a0 y64 i2n53 (by omega) hW  ha0) (by omega) (Nat.zero_le _) (Nat.zero_le _) (Nat.le_of_ble_eq_true rfl) (fun r66 V66 h66 => ?_)
                    obtain ⟨⟨y66, rfl, hl66, hh66⟩, hE66⟩ := h66
                    have hE66 := hE66.symm
                    subst hE66
                    refine J_istore_n dX7_shortest_69 rfl (by decide) ?_
                    refine J_iload_n dX7_shortest_70 rfl ?_
                    refine Jz_iconst (-1) dX7_shortest_71 (by decide) (fun y71 he71 => ?_)
                    refine Jz_icmp_eq (tgt := 124) jEq.rf he71 dX7_shortest_72 (by decide) (fun c72 => ?_) (fun c72 => ?_)
                    · refine Jz_iinc 1 dX7_shortest_124 rfl rfl (by decide) jEq.rf (by decide) (by omega) (by omega) (fun y124 he124 => ?_)
                      refine J_goto (tgt := 53) dX7_shortest_127 (by decide) ?_
                      refine J.mask [true, true, true, false] ?_
                      exact ih53 _ y124 gs53a0 g22n53 F33n53 F29n53 hW he ha0 hb2t33 hb35 hkp hOgs53a0 hFgs53a0_22 hFgs53a0_33 hFgs53a0_21 hAF33n53 hAF29n53 (by (try simp only [he124.eq, true_and, and_true]) <;> omega) (by (try simp only [he124.eq, true_and, and_true]) <;> omega) (by (try simp only [he124.eq, true_and, and_true]) <;> omega) hqueb (by (try simp only [he124.eq, true_and, and_true]) <;> omega)
                    · refine J_aload_n dX7_shortest_75 rfl ?_
                      refine J_get jf_X7_95 dX7_shortest_76 hOgs53a0 hFgs53a0_33 ?_
                      refine J_iload_n dX7_shortest_79 rfl ?_
                      refine Jz_iald (r := ((-1), 35)) jEq.rf dX7_shortest_80 hAF33n53 rfl hvF33n53 (by omega) (by omega) (fun y80 hf80 hl80 hh80 => ?_)
                      dsimp only at hl80 hh80
                      refine Jz_iconst (-1) dX7_shortest_81 (by decide) (fun y81 he81 => ?_)
                      refine Jz_icmp_ne (tgt := 124) jEq.rf he81 dX7_shortest_82 (by decide) (fun c82 => ?_) (fun c82 => ?_)
                      · refine Jz_iinc 1 dX7_shortest_124 rfl rfl (by decide) jEq.rf (by decide) (by omega) (by omega) (fun y124 he124 => ?_)
                        refine J_goto (tgt := 53) dX7_shortest_127 (by decide) ?_
                        refine J.mask [true, true, true, false] ?_
                        exact ih53 _ y124 gs53a0 g22n53 F33n53 F29n53 hW he ha0 hb2t33 hb35 hkp hOgs53a0 hFgs53a0_22 hFgs53a0_33 hFgs53a0_21 hAF33n53 hAF29n53 (by (try simp only [he124.eq, true_and, and_true]) <;> omega) (by (try simp only [he124.eq, true_and, and_true]) <;> omega) (by (try simp only [he124.eq, true_and, and_true]) <;> omega) hqueb (by (try simp only [he124.eq, true_and, and_true]) <;> omega)
                      · have hlt := jcn_lt (c := -1) (F := F33n53) (k := y66.toInt.toNat) (by rw [hf80]; exact c82) 36 (by omega)
                        refine J_aload_n dX7_shortest_85 rfl ?_
                        refine J_get jf_X7_95 dX7_shortest_86 hOgs53a0 hFgs53a0_33 ?_
                        refine J_iload_n dX7_shortest_89 rfl ?_
                        refine J_aload_n dX7_shortest_90 rfl ?_
                        refine J_get jf_X7_95 dX7_shortest_91 hOgs53a0 hFgs53a0_33 ?_
                        refine J_aload_n dX7_shortest_94 rfl ?_
                        refine J_get jf_X7_70 dX7_shortest_95 hOgs53a0 hFgs53a0_21 ?_
                        refine J_iload_n dX7_shortest_98 rfl ?_
                        refine Jz_iald (r := (0, 9999)) jEq.rf dX7_shortest_99 hAF29n53 rfl hvF29n53 (by omega) (by omega) (fun y99 hf99 hl99 hh99 => ?_)
                        dsimp only at hl99 hh99
                        clear hl99 hh99
                        have he99 : jEq y99.toInt (y64.toInt) := by rw [← hf99, hf64]; exact jEq.rf
                        refine Jz_iald (r := ((-1), 35)) he99 dX7_shortest_100 hAF33n53 rfl hvF33n53 (by omega) (by omega) (fun y100 hf100 hl100 hh100 => ?_)
                        dsimp only at hl100 hh100
                        rw [hf100] at hb64
                        refine Jz_iconst 1 dX7_shortest_101 (by decide) (fun y101 he101 => ?_)
                        refine Jz_iadd jEq.rf he101 dX7_shortest_102 (by omega) (by omega) (fun y102 he102 => ?_)
                        refine Jz_iast (r := ((-1), 35)) jEq.rf he102 hW id dX7_shortest_103 hAF33n53 rfl rfl (by omega) (by omega) (by omega) (by omega) (fun V103 G103 hW hx103 hA103 hp103 ho103 => ?_)
                        obtain ⟨hN103, hv103⟩ := WT_rngI (r := ((-1), 35)) hW id rfl hA103
                        clear hN103
                        have he := he.trans (hx103.sub (jsub_of rfl))
                        have hkp := hkp.trans (jkc.of hx103 (jnot_of rfl))
                        have ha0 := ha0.mono hx103.1
                        have hb2t33 := hb2t33.mono hx103.1
                        have hb35 := hb35.mono hx103.1
                        have hOgs53a0 := hx103.2 _ _ hOgs53a0 (jnot_of rfl)
                        have hKgs53a0 := hKgs53a0.mono hx103.1
                        have hAF29n53 := hx103.2 _ _ hAF29n53 (jnot_of rfl)
                        refine J_aload_n dX7_shortest_104 rfl ?_
                        refine J_get jf_X7_70 dX7_shortest_105 hOgs53a0 hFgs53a0_21 ?_
                        refine J_aload_n dX7_shortest_108 rfl ?_
                        refine J_get jf_X7_205 dX7_shortest_109 hOgs53a0 hFgs53a0_22 ?_
                        refine J_iload_n dX7_shortest_112 rfl ?_
                        refine Jz_iast (r := (0, 9999)) jEq.rf jEq.rf hW id dX7_shortest_113 hAF29n53 rfl rfl (by omega) (by omega) (by omega) (by omega) (fun V113 G113 hW hx113 hA113 hp113 ho113 => ?_)
                        obtain ⟨hN113, hv113⟩ := WT_rngI (r := (0, 9999)) hW id rfl hA113
                        clear hN113
                        have he := he.trans (hx113.sub (jsub_of rfl))
                        have hkp := hkp.trans (jkc.of hx113 (jnot_of rfl))
                        have ha0 := ha0.mono hx113.1
                        have hb2t33 := hb2t33.mono hx113.1
                        have hb35 := hb35.mono hx113.1
                        have hOgs53a0 := hx113.2 _ _ hOgs53a0 (jnot_of rfl)
                        have hKgs53a0 := hKgs53a0.mono hx113.1
                        have hA103 := hx113.2 _ _ hA103 (jnot_of rfl)
                        refine J_aload_n dX7_shortest_114 rfl ?_
                        refine J_dup dX7_shortest_115 rfl ?_
                        refine J_get jf_X7_205 dX7_shortest_116 hOgs53a0 hFgs53a0_22 ?_
                        refine Jz_iconst 1 dX7_shortest_119 (by decide) (fun y119 he119 => ?_)
                        refine Jz_iadd jEq.rf he119 dX7_shortest_120 (by omega) (by omega) (fun y120 he120 => ?_)
                        refine Jz_putI hOgs53a0 hW id rfl jf_X7_205 jt_X7_22 he120 dX7_shortest_121 (by omega) (by omega) (fun _ _ => ⟨rfl, rfl⟩) (fun V121 fs121 hW hx121 hO121 hS121 hT121 hB121 => ?_)
                        have hK121 : jokO _ (jFs 5) fs121 := hW _ _ id hO121
                        have hF121_33 := (hT121 33 (by decide)).trans hFgs53a0_33
                        have hF121_21 := (hT121 21 (by decide)).trans hFgs53a0_21
                        have he := he.trans (hx121.sub (jsub_of rfl))
                        have hkp := hkp.trans (jkc.put hOgs53a0 hO121 hT121 hB121 (by decide))
                        have ha0 := ha0.mono hx121.1
                        have hb2t33 := hb2t33.mono hx121.1
                        have hb35 := hb35.mono hx121.1
                        have hA103 := hx121.2 _ _ hA103 (jnot_of rfl)
                        have hA113 := hx121.2 _ _ hA113 (jnot_of rfl)
                        refine Jz_iinc 1 dX7_shortest_124 rfl rfl (by decide) jEq.rf (by decide) (by omega) (by omega) (fun y124 he124 => ?_)
                        refine J_goto (tgt := 53) dX7_shortest_127 (by decide) ?_
                        have hup := jcn_up (c := -1) (show (F33n53 y66.toInt.toNat).toInt = -1 by rw [hf80]; exact c82) (by rw [hp103, he102.eq]; omega) ho103 36 (by omega)
                        refine J.mask [true, true, true, false] ?_
                        exact ih53 _ y124 fs121 y120 G103 G113 hW he ha0 hb2t33 hb35 hkp hO121 hS121 hF121_33 hF121_21 hA103 hA113 (by (try simp only [he124.eq, he120.eq, true_and, and_true]) <;> omega) (by (try simp only [he124.eq, he120.eq, true_and, and_true]) <;> omega) (by (try simp only [he124.eq, he120.eq, true_and, and_true]) <;> omega) (fun j hj => by rw [he120.eq] at hj; exact (Nat.decEq j g22n53.toInt.toNat).byCases (fun hq => by rw [hq, hp113, hp103, he102.eq]; omega) (fun hq => by rw [ho113 j hq]; have h1 := hqueb j (by omega); rw [ho103 _ (fun h9 => by rw [h9, hf80] at h1; omega)]; exact h1)) (by (try simp only [he124.eq, he120.eq, true_and, and_true]) <;> omega)
              refine J.mask [true, true, true, false] ?_
              exact L53 _ _ y51 gs43a0 g22n43 F33n43 F29n43 hW he ha0 hb2t33 hb35 hkp hOgs43a0 hFgs43a0_22 hFgs43a0_33 hFgs43a0_21 hAF33n43 hAF29n43 (by (try simp only [he51.eq, true_and, and_true]) <;> omega) (by (try simp only [he51.eq, true_and, and_true]) <;> omega) (by (try simp only [he51.eq, true_and, and_true]) <;> omega) hque (Nat.lt_succ_self _)
        refine J.mask [true, true, false, false] ?_
        exact L43 _ _ y41 fs31 y30 F33n2 G40 hW he ha0 hb2t33 hb35 hkp hO31 hS31 hF31_33 hF35 hAF33n2 hA40 (by (try simp only [he41.eq, he30.eq, true_and, and_true]) <;> omega) (by rw [he30.eq, jcn_one (n := 36) (by rw [(hz 0 (by omega)).1 rfl]; decide) (fun k h1 h2 => (hz k (by omega)).2 (by omega)) (by omega)]; rfl) (fun j hj => by rw [he30.eq] at hj; rw [show j = Int.toNat 0 by omega, hp40, he39.eq, show (F33n2 (Int.toNat 0)).toInt = 0 from (hz 0 (by omega)).1 rfl]; omega) (Nat.lt_succ_self _)
      · refine J_aload_n dX7_shortest_8 rfl ?_
        refine J_get jf_X7_95 dX7_shortest_9 hO2t33 hF2t33 ?_
        refine J_iload_n dX7_shortest_12 rfl ?_
        refine J_iload_n dX7_shortest_13 rfl ?_
        have K22 : ∀ (t0k22 : Int32), ((i1n2.toInt = 0 ∧ t0k22.toInt = 0) ∨ (¬ i1n2.toInt = 0 ∧ t0k22.toInt = -1)) → J tS mX7_shortest d 22 [some (.ref a0), some (.int i1n2), none, none] [.int t0k22, .int i1n2, .ref b2t33] V 0 0 (fun r V => (jPost [.inr 5, .inl 33, .inl 29] V0 (fun r _ => ∃ y : Int32, r = some (.int y) ∧ ((-2147483648) ≤ y.toInt) ∧ (y.toInt ≤ 2147483647))) r V ∧ jkc 5 [0, 23, 24] V0 V) := by
          intro  t0k22     hk22_0
          refine Jz_iast (r := ((-1), 35)) jEq.rf jEq.rf hW id dX7_shortest_22 hAF33n2 rfl rfl (by omega) (by omega) (by omega) (by omega) (fun V22 G22 hW hx22 hA22 hp22 ho22 => ?_)
          obtain ⟨hN22, hv22⟩ := WT_rngI (r := ((-1), 35)) hW id rfl hA22
          clear hN22
          have he := he.trans (hx22.sub (jsub_of rfl))
          have hkp := hkp.trans (jkc.of hx22 (jnot_of rfl))
          have ha0 := ha0.mono hx22.1
          have hb2t33 := hb2t33.mono hx22.1
          have hO2t33 := hx22.2 _ _ hO2t33 (jnot_of rfl)
          have hK2t33 := hK2t33.mono hx22.1
          refine Jz_iinc 1 dX7_shortest_23 rfl rfl (by decide) jEq.rf (by decide) (by omega) (by omega) (fun y23 he23 => ?_)
          refine J_goto (tgt := 2) dX7_shortest_26 (by decide) ?_
          refine J.mask [true, true, false, false] ?_
          exact ih2 _ y23 G22 hW he ha0 hb2t33 hkp hO2t33 hK2t33 hA22 (by (try simp only [he23.eq, true_and, and_true]) <;> omega) (fun k hk => by rw [he23.eq] at hk; exact (Nat.decEq k i1n2.toInt.toNat).byCases (fun hq => by rw [hq, hp22]; omega) (fun hq => by rw [ho22 k hq]; exact hz k (by omega))) (by (try simp only [he23.eq, true_and, and_true]) <;> omega)
        refine Jz_if_ne (tgt := 21) jEq.rf dX7_shortest_14 (by decide) (fun c14 => ?_) (fun c14 => ?_)
        · refine Jz_iconst (-1) dX7_shortest_21 (by decide) (fun y21 he21 => ?_)
          exact K22  y21  (by (try simp only [he21.eq, true_and, and_true]) <;> omega)
        · refine Jz_iconst 0 dX7_shortest_17 (by decide) (fun y17 he17 => ?_)
          refine J_goto (tgt := 22) dX7_shortest_18 (by decide) ?_
          exact K22  y17  (by (try simp only [he17.eq, true_and, and_true]) <;> omega)
  refine J.mask [true, true, false, false] ?_
  exact L2 _ _ y0 f2tb2t33 hW he ha0 hb2t33 hkp hO2t33 hK2t33 hA2tb2t33 (by (try simp only [he0.eq, true_and, and_true]) <;> omega) (fun k hk => by rw [he0.eq] at hk; omega) (Nat.lt_succ_self _)
set_option maxRecDepth 100000 in
set_option maxHeartbeats 8000000 in
theorem w_X7_stepX_z {tS : jTS} (d : Nat) (V0 : jH) (x0 : Int32) (x1 : Int32) (hd : 0 ≤ d)  (hp0 : 0 ≤ x0.toInt) (hp1 : x0.toInt ≤ 3) : jTot tS mX7_stepX d [.int x0, .int x1] V0 0 0 (fun r V => (fun r _ => ∃ y : Int32, r = some (.int y) ∧ ((-1) ≤ y.toInt) ∧ (y.toInt ≤ 1) ∧ (y.toInt = jsx x0.toInt x1.toInt)) r V ∧ V = V0) := by
  refine jTot.of_J [some (.int x0), some (.int x1)] moX7_stepX (Nat.le_of_ble_eq_true rfl) rfl ?_
  have hrx0 := j_rng x0
  have hrx1 := j_rng x1
  refine J_iload_n dX7_stepX_0 rfl ?_
  rcases jsw2 x0 with hx1 | hx1 | hx1 | hx1 | hx1
  · have hx1t : x0.toInt = 0 := by rw [hx1]; rfl
    clear hx1
    refine J_tableIn (tgt := 28) dX7_stepX_1 (by omega) (by omega) (by rw [hx1t]; rfl) (by decide) ?_
    refine J_iload_n dX7_stepX_28 rfl ?_
    refine Jz_if_ne (tgt := 36) jEq.rf dX7_stepX_29 (by decide) (fun c29 => ?_) (fun c29 => ?_)
    · refine J_iload_n dX7_stepX_36 rfl ?_
      refine Jz_iconst 2 dX7_stepX_37 (by decide) (fun y37 he37 => ?_)
      refine Jz_icmp_ne (tgt := 45) jEq.rf he37 dX7_stepX_38 (by decide) (fun c38 => ?_) (fun c38 => ?_)
      · refine Jz_iconst 0 dX7_stepX_45 (by decide) (fun y45 he45 => ?_)
        exact J_ret (r := some (.int _)) dX7_stepX_46 ⟨rfl, _, rfl, rfl⟩ (⟨⟨_, rfl, (by (try simp only [he45.eq, true_and, and_true]) <;> omega), (by (try simp only [he45.eq, true_and, and_true]) <;> omega), (by first | ((try simp only [he45.eq, true_and, and_true]) <;> omega) | ((try simp only [he45.eq]); unfold jsx; (repeat' split) <;> omega))⟩, rfl⟩)
      · refine Jz_iconst (-1) dX7_stepX_41 (by decide) (fun y41 he41 => ?_)
        refine J_goto (tgt := 46) dX7_stepX_42 (by decide) ?_
        exact J_ret (r := some (.int _)) dX7_stepX_46 ⟨rfl, _, rfl, rfl⟩ (⟨⟨_, rfl, (by (try simp only [he41.eq, true_and, and_true]) <;> omega), (by (try simp only [he41.eq, true_and, and_true]) <;> omega), (by first | ((try simp only [he41.eq, true_and, and_true]) <;> omega) | ((try simp only [he41.eq]); unfold jsx; (repeat' split) <;> omega))⟩, rfl⟩)
    · refine Jz_iconst 1 dX7_stepX_32 (by decide) (fun y32 he32 => ?_)
      refine J_goto (tgt := 46) dX7_stepX_33 (by decide) ?_
      exact J_ret (r := some (.int _)) dX7_stepX_46 ⟨rfl, _, rfl, rfl⟩ (⟨⟨_, rfl, (by (try simp only [he32.eq, true_and, and_true]) <;> omega), (by (try simp only [he32.eq, true_and, and_true]) <;> omega), (by first | ((try simp only [he32.eq, true_and, and_true]) <;> omega) | ((try simp only [he32.eq]); unfold jsx; (repeat' split) <;> omega))⟩, rfl⟩)
  · have hx1t : x0.toInt = 1 := by rw [hx1]; rfl
    clear hx1
    refine J_tableIn (tgt := 47) dX7_stepX_1 (by omega) (by omega) (by rw [hx1t]; rfl) (by decide) ?_
    refine J_iload_n dX7_stepX_47 rfl ?_
    refine Jz_if_eq (tgt := 56) jEq.rf dX7_stepX_48 (by decide) (fun c48 => ?_) (fun c48 => ?_)
    · refine Jz_iconst 1 dX7_stepX_56 (by decide) (fun y56 he56 => ?_)
      refine J_goto (tgt := 75) dX7_stepX_57 (by decide) ?_
      exact J_ret (r := some (.int _)) dX7_stepX_75 ⟨rfl, _, rfl, rfl⟩ (⟨⟨_, rfl, (by (try simp only [he56.eq, true_and, and_true]) <;> omega), (by (try simp only [he56.eq, true_and, and_true]) <;> omega), (by first | ((try simp only [he56.eq, true_and, and_true]) <;> omega) | ((try simp only [he56.eq]); unfold jsx; (repeat' split) <;> omega))⟩, rfl⟩)
    · refine J_iload_n dX7_stepX_51 rfl ?_
      refine Jz_iconst 5 dX7_stepX_52 (by decide) (fun y52 he52 => ?_)
      refine Jz_icmp_ne (tgt := 60) jEq.rf he52 dX7_stepX_53 (by decide) (fun c53 => ?_) (fun c53 => ?_)
      · refine J_iload_n dX7_stepX_60 rfl ?_
        refine Jz_iconst 2 dX7_stepX_61 (by decide) (fun y61 he61 => ?_)
        refine Jz_icmp_eq (tgt := 70) jEq.rf he61 dX7_stepX_62 (by decide) (fun c62 => ?_) (fun c62 => ?_)
        · refine Jz_iconst (-1) dX7_stepX_70 (by decide) (fun y70 he70 => ?_)
          refine J_goto (tgt := 75) dX7_stepX_71 (by decide) ?_
          exact J_ret (r := some (.int _)) dX7_stepX_75 ⟨rfl, _, rfl, rfl⟩ (⟨⟨_, rfl, (by (try simp only [he70.eq, true_and, and_true]) <;> omega), (by (try simp only [he70.eq, true_and, and_true]) <;> omega), (by first | ((try simp only [he70.eq, true_and, and_true]) <;> omega) | ((try simp only [he70.eq]); unfold jsx; (repeat' split) <;> omega))⟩, rfl⟩)
        · refine J_iload_n dX7_stepX_65 rfl ?_
          refine Jz_iconst 3 dX7_stepX_66 (by decide) (fun y66 he66 => ?_)
          refine Jz_icmp_ne (tgt := 74) jEq.rf he66 dX7_stepX_67 (by decide) (fun c67 => ?_) (fun c67 => ?_)
          · refine Jz_iconst 0 dX7_stepX_74 (by decide) (fun y74 he74 => ?_)
            exact J_ret (r := some (.int _)) dX7_stepX_75 ⟨rfl, _, rfl, rfl⟩ (⟨⟨_, rfl, (by (try simp only [he74.eq, true_and, and_true]) <;> omega), (by (try simp only [he74.eq, true_and, and_true]) <;> omega), (by first | ((try simp only [he74.eq, true_and, and_true]) <;> omega) | ((try simp only [he74.eq]); unfold jsx; (repeat' split) <;> omega))⟩, rfl⟩)
          · refine Jz_iconst (-1) dX7_stepX_70 (by decide) (fun y70 he70 => ?_)
            refine J_goto (tgt := 75) dX7_stepX_71 (by decide) ?_
            exact J_ret (r := some (.int _)) dX7_stepX_75 ⟨rfl, _, rfl, rfl⟩ (⟨⟨_, rfl, (by (try simp only [he70.eq, true_and, and_true]) <;> omega), (by (try simp only [he70.eq, true_and, and_true]) <;> omega), (by first | ((try simp only [he70.eq, true_and, and_true]) <;> omega) | ((try simp only [he70.eq]); unfold jsx; (repeat' split) <;> omega))⟩, rfl⟩)
      · refine Jz_iconst 1 dX7_stepX_56 (by decide) (fun y56 he56 => ?_)
        refine J_goto (tgt := 75) dX7_stepX_57 (by decide) ?_
        exact J_ret (r := some (.int _)) dX7_stepX_75 ⟨rfl, _, rfl, rfl⟩ (⟨⟨_, rfl, (by (try simp only [he56.eq, true_and, and_true]) <;> omega), (by (try simp only [he56.eq, true_and, and_true]) <;> omega), (by first | ((try simp only [he56.eq, true_and, and_true]) <;> omega) | ((try simp only [he56.eq]); unfold jsx; (repeat' split) <;> omega))⟩, rfl⟩)
  · have hx1t : x0.toInt = 2 := by rw [hx1]; rfl
    clear hx1
    refine J_tableIn (tgt := 76) dX7_stepX_1 (by omega) (by omega) (by rw [hx1t]; rfl) (by decide) ?_
    refine J_iload_n dX7_stepX_76 rfl ?_
    refine Jz_if_ne (tgt := 84) jEq.rf dX7_stepX_77 (by decide) (fun c77 => ?_) (fun c77 => ?_)
    · refine J_iload_n dX7_stepX_84 rfl ?_
      refine Jz_iconst 1 dX7_stepX_85 (by decide) (fun y85 he85 => ?_)
      refine Jz_icmp_ne (tgt := 93) jEq.rf he85 dX7_stepX_86 (by decide) (fun c86 => ?_) (fun c86 => ?_)
      · refine Jz_iconst 0 dX7_stepX_93 (by decide) (fun y93 he93 => ?_)
        exact J_ret (r := some (.int _)) dX7_stepX_94 ⟨rfl, _, rfl, rfl⟩ (⟨⟨_, rfl, (by (try simp only [he93.eq, true_and, and_true]) <;> omega), (by (try simp only [he93.eq, true_and, and_true]) <;> omega), (by first | ((try simp only [he93.eq, true_and, and_true]) <;> omega) | ((try simp only [he93.eq]); unfold jsx; (repeat' split) <;> omega))⟩, rfl⟩)
      · refine Jz_iconst (-1) dX7_stepX_89 (by decide) (fun y89 he89 => ?_)
        refine J_goto (tgt := 94) dX7_stepX_90 (by decide) ?_
        exact J_ret (r := some (.int _)) dX7_stepX_94 ⟨rfl, _, rfl, rfl⟩ (⟨⟨_, rfl, (by (try simp only [he89.eq, true_and, and_true]) <;> omega), (by (try simp only [he89.eq, true_and, and_true]) <;> omega), (by first | ((try simp only [he89.eq, true_and, and_true]) <;> omega) | ((try simp only [he89.eq]); unfold jsx; (repeat' split) <;> omega))⟩, rfl⟩)
    · refine Jz_iconst 1 dX7_stepX_80 (by decide) (fun y80 he80 => ?_)
      refine J_goto (tgt := 94) dX7_stepX_81 (by decide) ?_
      exact J_ret (r := some (.int _)) dX7_stepX_94 ⟨rfl, _, rfl, rfl⟩ (⟨⟨_, rfl, (by (try simp only [he80.eq, true_and, and_true]) <;> omega), (by (try simp only [he80.eq, true_and, and_true]) <;> omega), (by first | ((try simp only [he80.eq, true_and, and_true]) <;> omega) | ((try simp only [he80.eq]); unfold jsx; (repeat' split) <;> omega))⟩, rfl⟩)
  · refine J_tableOut (tgt := 95) dX7_stepX_1 (Or.inl hx1) (by decide) ?_
    refine J_iload_n dX7_stepX_95 rfl ?_
    refine Jz_if_ne (tgt := 103) jEq.rf dX7_stepX_96 (by decide) (fun c96 => ?_) (fun c96 => ?_)
    · refine J_iload_n dX7_stepX_103 rfl ?_
      refine Jz_iconst 3 dX7_stepX_104 (by decide) (fun y104 he104 => ?_)
      refine Jz_icmp_ne (tgt := 112) jEq.rf he104 dX7_stepX_105 (by decide) (fun c105 => ?_) (fun c105 => ?_)
      · refine Jz_iconst 0 dX7_stepX_112 (by decide) (fun y112 he112 => ?_)
        exact J_ret (r := some (.int _)) dX7_stepX_113 ⟨rfl, _, rfl, rfl⟩ (⟨⟨_, rfl, (by (try simp only [he112.eq, true_and, and_true]) <;> omega), (by (try simp only [he112.eq, true_and, and_true]) <;> omega), (by first | ((try simp only [he112.eq, true_and, and_true]) <;> omega) | ((try simp only [he112.eq]); unfold jsx; (repeat' split) <;> omega))⟩, rfl⟩)
      · refine Jz_iconst (-1) dX7_stepX_108 (by decide) (fun y108 he108 => ?_)
        refine J_goto (tgt := 113) dX7_stepX_109 (by decide) ?_
        exact J_ret (r := some (.int _)) dX7_stepX_113 ⟨rfl, _, rfl, rfl⟩ (⟨⟨_, rfl, (by (try simp only [he108.eq, true_and, and_true]) <;> omega), (by (try simp only [he108.eq, true_and, and_true]) <;> omega), (by first | ((try simp only [he108.eq, true_and, and_true]) <;> omega) | ((try simp only [he108.eq]); unfold jsx; (repeat' split) <;> omega))⟩, rfl⟩)
    · refine Jz_iconst 1 dX7_stepX_99 (by decide) (fun y99 he99 => ?_)
      refine J_goto (tgt := 113) dX7_stepX_100 (by decide) ?_
      exact J_ret (r := some (.int _)) dX7_stepX_113 ⟨rfl, _, rfl, rfl⟩ (⟨⟨_, rfl, (by (try simp only [he99.eq, true_and, and_true]) <;> omega), (by (try simp only [he99.eq, true_and, and_true]) <;> omega), (by first | ((try simp only [he99.eq, true_and, and_true]) <;> omega) | ((try simp only [he99.eq]); unfold jsx; (repeat' split) <;> omega))⟩, rfl⟩)
  · refine J_tableOut (tgt := 95) dX7_stepX_1 (Or.inr hx1) (by decide) ?_
    refine J_iload_n dX7_stepX_95 rfl ?_
    refine Jz_if_ne (tgt := 103) jEq.rf dX7_stepX_96 (by decide) (fun c96 => ?_) (fun c96 => ?_)
    · refine J_iload_n dX7_stepX_103 rfl ?_
      refine Jz_iconst 3 dX7_stepX_104 (by decide) (fun y104 he104 => ?_)
      refine Jz_icmp_ne (tgt := 112) jEq.rf he104 dX7_stepX_105 (by decide) (fun c105 => ?_) (fun c105 => ?_)
      · refine Jz_iconst 0 dX7_stepX_112 (by decide) (fun y112 he112 => ?_)
        exact J_ret (r := some (.int _)) dX7_stepX_113 ⟨rfl, _, rfl, rfl⟩ (⟨⟨_, rfl, (by (try simp only [he112.eq, true_and, and_true]) <;> omega), (by (try simp only [he112.eq, true_and, and_true]) <;> omega), (by first | ((try simp only [he112.eq, true_and, and_true]) <;> omega) | ((try simp only [he112.eq]); unfold jsx; (repeat' split) <;> omega))⟩, rfl⟩)
      · refine Jz_iconst (-1) dX7_stepX_108 (by decide) (fun y108 he108 => ?_)
        refine J_goto (tgt := 113) dX7_stepX_109 (by decide) ?_
        exact J_ret (r := some (.int _)) dX7_stepX_113 ⟨rfl, _, rfl, rfl⟩ (⟨⟨_, rfl, (by (try simp only [he108.eq, true_and, and_true]) <;> omega), (by (try simp only [he108.eq, true_and, and_true]) <;> omega), (by first | ((try simp only [he108.eq, true_and, and_true]) <;> omega) | ((try simp only [he108.eq]); unfold jsx; (repeat' split) <;> omega))⟩, rfl⟩)
    · refine Jz_iconst 1 dX7_stepX_99 (by decide) (fun y99 he99 => ?_)
      refine J_goto (tgt := 113) dX7_stepX_100 (by decide) ?_
      exact J_ret (r := some (.int _)) dX7_stepX_113 ⟨rfl, _, rfl, rfl⟩ (⟨⟨_, rfl, (by (try simp only [he99.eq, true_and, and_true]) <;> omega), (by (try simp only [he99.eq, true_and, and_true]) <;> omega), (by first | ((try simp only [he99.eq, true_and, and_true]) <;> omega) | ((try simp only [he99.eq]); unfold jsx; (repeat' split) <;> omega))⟩, rfl⟩)
set_option maxRecDepth 100000 in
set_option maxHeartbeats 8000000 in
theorem w_X7_stepY_z {tS : jTS} (d : Nat) (V0 : jH) (x0 : Int32) (x1 : Int32) (x2 : Int32) (hd : 0 ≤ d)  (hp0 : 0 ≤ x0.toInt) (hp1 : x0.toInt ≤ 3) : jTot tS mX7_stepY d [.int x0, .int x1, .int x2] V0 0 0 (fun r V => (fun r _ => ∃ y : Int32, r = some (.int y) ∧ ((-1) ≤ y.toInt) ∧ (y.toInt ≤ 1) ∧ (y.toInt = jsy x0.toInt x1.toInt x2.toInt)) r V ∧ V = V0) := by
  refine jTot.of_J [some (.int x0), some (.int x1), some (.int x2)] moX7_stepY (Nat.le_of_ble_eq_true rfl) rfl ?_
  have hrx0 := j_rng x0
  have hrx1 := j_rng x1
  have hrx2 := j_rng x2
  refine J_iload_n dX7_stepY_0 rfl ?_
  rcases jsw2 x0 with hx1 | hx1 | hx1 | hx1 | hx1
  · have hx1t : x0.toInt = 0 := by rw [hx1]; rfl
    clear hx1
    refine J_tableIn (tgt := 28) dX7_stepY_1 (by omega) (by omega) (by rw [hx1t]; rfl) (by decide) ?_
    refine J_iload_n dX7_stepY_28 rfl ?_
    refine Jz_iconst 1 dX7_stepY_29 (by decide) (fun y29 he29 => ?_)
    refine Jz_icmp_ne (tgt := 37) jEq.rf he29 dX7_stepY_30 (by decide) (fun c30 => ?_) (fun c30 => ?_)
    · refine J_iload_n dX7_stepY_37 rfl ?_
      refine Jz_iconst 3 dX7_stepY_38 (by decide) (fun y38 he38 => ?_)
      refine Jz_icmp_ne (tgt := 46) jEq.rf he38 dX7_stepY_39 (by decide) (fun c39 => ?_) (fun c39 => ?_)
      · refine Jz_iconst 0 dX7_stepY_46 (by decide) (fun y46 he46 => ?_)
        exact J_ret (r := some (.int _)) dX7_stepY_47 ⟨rfl, _, rfl, rfl⟩ (⟨⟨_, rfl, (by (try simp only [he46.eq, true_and, and_true]) <;> omega), (by (try simp only [he46.eq, true_and, and_true]) <;> omega), (by first | ((try simp only [he46.eq, true_and, and_true]) <;> omega) | ((try simp only [he46.eq]); unfold jsy; (repeat' split) <;> omega))⟩, rfl⟩)
      · refine Jz_iconst (-1) dX7_stepY_42 (by decide) (fun y42 he42 => ?_)
        refine J_goto (tgt := 47) dX7_stepY_43 (by decide) ?_
        exact J_ret (r := some (.int _)) dX7_stepY_47 ⟨rfl, _, rfl, rfl⟩ (⟨⟨_, rfl, (by (try simp only [he42.eq, true_and, and_true]) <;> omega), (by (try simp only [he42.eq, true_and, and_true]) <;> omega), (by first | ((try simp only [he42.eq, true_and, and_true]) <;> omega) | ((try simp only [he42.eq]); unfold jsy; (repeat' split) <;> omega))⟩, rfl⟩)
    · refine Jz_iconst 1 dX7_stepY_33 (by decide) (fun y33 he33 => ?_)
      refine J_goto (tgt := 47) dX7_stepY_34 (by decide) ?_
      exact J_ret (r := some (.int _)) dX7_stepY_47 ⟨rfl, _, rfl, rfl⟩ (⟨⟨_, rfl, (by (try simp only [he33.eq, true_and, and_true]) <;> omega), (by (try simp only [he33.eq, true_and, and_true]) <;> omega), (by first | ((try simp only [he33.eq, true_and, and_true]) <;> omega) | ((try simp only [he33.eq]); unfold jsy; (repeat' split) <;> omega))⟩, rfl⟩)
  · have hx1t : x0.toInt = 1 := by rw [hx1]; rfl
    clear hx1
    refine J_tableIn (tgt := 48) dX7_stepY_1 (by omega) (by omega) (by rw [hx1t]; rfl) (by decide) ?_
    refine J_iload_n dX7_stepY_48 rfl ?_
    refine Jz_iconst 1 dX7_stepY_49 (by decide) (fun y49 he49 => ?_)
    refine Jz_icmp_eq (tgt := 58) jEq.rf he49 dX7_stepY_50 (by decide) (fun c50 => ?_) (fun c50 => ?_)
    · refine Jz_iconst 1 dX7_stepY_58 (by decide) (fun y58 he58 => ?_)
      refine J_goto (tgt := 77) dX7_stepY_59 (by decide) ?_
      exact J_ret (r := some (.int _)) dX7_stepY_77 ⟨rfl, _, rfl, rfl⟩ (⟨⟨_, rfl, (by (try simp only [he58.eq, true_and, and_true]) <;> omega), (by (try simp only [he58.eq, true_and, and_true]) <;> omega), (by first | ((try simp only [he58.eq, true_and, and_true]) <;> omega) | ((try simp only [he58.eq]); unfold jsy; (repeat' split) <;> omega))⟩, rfl⟩)
    · refine J_iload_n dX7_stepY_53 rfl ?_
      refine Jz_iconst 2 dX7_stepY_54 (by decide) (fun y54 he54 => ?_)
      refine Jz_icmp_ne (tgt := 62) jEq.rf he54 dX7_stepY_55 (by decide) (fun c55 => ?_) (fun c55 => ?_)
      · refine J_iload_n dX7_stepY_62 rfl ?_
        refine Jz_iconst 4 dX7_stepY_63 (by decide) (fun y63 he63 => ?_)
        refine Jz_icmp_eq (tgt := 72) jEq.rf he63 dX7_stepY_64 (by decide) (fun c64 => ?_) (fun c64 => ?_)
        · refine Jz_iconst (-1) dX7_stepY_72 (by decide) (fun y72 he72 => ?_)
          refine J_goto (tgt := 77) dX7_stepY_73 (by decide) ?_
          exact J_ret (r := some (.int _)) dX7_stepY_77 ⟨rfl, _, rfl, rfl⟩ (⟨⟨_, rfl, (by (try simp only [he72.eq, true_and, and_true]) <;> omega), (by (try simp only [he72.eq, true_and, and_true]) <;> omega), (by first | ((try simp only [he72.eq, true_and, and_true]) <;> omega) | ((try simp only [he72.eq]); unfold jsy; (repeat' split) <;> omega))⟩, rfl⟩)
        · refine J_iload_n dX7_stepY_67 rfl ?_
          refine Jz_iconst 5 dX7_stepY_68 (by decide) (fun y68 he68 => ?_)
          refine Jz_icmp_ne (tgt := 76) jEq.rf he68 dX7_stepY_69 (by decide) (fun c69 => ?_) (fun c69 => ?_)
          · refine Jz_iconst 0 dX7_stepY_76 (by decide) (fun y76 he76 => ?_)
            exact J_ret (r := some (.int _)) dX7_stepY_77 ⟨rfl, _, rfl, rfl⟩ (⟨⟨_, rfl, (by (try simp only [he76.eq, true_and, and_true]) <;> omega), (by (try simp only [he76.eq, true_and, and_true]) <;> omega), (by first | ((try simp only [he76.eq, true_and, and_true]) <;> omega) | ((try simp only [he76.eq]); unfold jsy; (repeat' split) <;> omega))⟩, rfl⟩)
          · refine Jz_iconst (-1) dX7_stepY_72 (by decide) (fun y72 he72 => ?_)
            refine J_goto (tgt := 77) dX7_stepY_73 (by decide) ?_
            exact J_ret (r := some (.int _)) dX7_stepY_77 ⟨rfl, _, rfl, rfl⟩ (⟨⟨_, rfl, (by (try simp only [he72.eq, true_and, and_true]) <;> omega), (by (try simp only [he72.eq, true_and, and_true]) <;> omega), (by first | ((try simp only [he72.eq, true_and, and_true]) <;> omega) | ((try simp only [he72.eq]); unfold jsy; (repeat' split) <;> omega))⟩, rfl⟩)
      · refine Jz_iconst 1 dX7_stepY_58 (by decide) (fun y58 he58 => ?_)
        refine J_goto (tgt := 77) dX7_stepY_59 (by decide) ?_
        exact J_ret (r := some (.int _)) dX7_stepY_77 ⟨rfl, _, rfl, rfl⟩ (⟨⟨_, rfl, (by (try simp only [he58.eq, true_and, and_true]) <;> omega), (by (try simp only [he58.eq, true_and, and_true]) <;> omega), (by first | ((try simp only [he58.eq, true_and, and_true]) <;> omega) | ((try simp only [he58.eq]); unfold jsy; (repeat' split) <;> omega))⟩, rfl⟩)
  · have hx1t : x0.toInt = 2 := by rw [hx1]; rfl
    clear hx1
    refine J_tableIn (tgt := 78) dX7_stepY_1 (by omega) (by omega) (by rw [hx1t]; rfl) (by decide) ?_
    refine J_iload_n dX7_stepY_78 rfl ?_
    refine Jz_iconst 2 dX7_stepY_79 (by decide) (fun y79 he79 => ?_)
    refine Jz_icmp_ge (tgt := 87) jEq.rf he79 dX7_stepY_80 (by decide) (fun c80 => ?_) (fun c80 => ?_)
    · refine J_iload_n dX7_stepY_87 rfl ?_
      refine Jz_iconst 1 dX7_stepY_88 (by decide) (fun y88 he88 => ?_)
      refine J_iand dX7_stepY_89 ?_
      have hz89 : jEq (x2 &&& y88).toInt ((x2.toInt) % 2) := by rw [show y88 = 1 from jI_inj.mp he88.eq, jand1 x2]; rfl
      generalize x2 &&& y88 = y89 at hz89 ⊢
      refine Jz_if_ne (tgt := 97) hz89 dX7_stepY_90 (by decide) (fun c90 => ?_) (fun c90 => ?_)
      · refine Jz_iconst (-1) dX7_stepY_97 (by decide) (fun y97 he97 => ?_)
        exact J_ret (r := some (.int _)) dX7_stepY_98 ⟨rfl, _, rfl, rfl⟩ (⟨⟨_, rfl, (by (try simp only [he97.eq, true_and, and_true]) <;> omega), (by (try simp only [he97.eq, true_and, and_true]) <;> omega), (by first | ((try simp only [he97.eq, true_and, and_true]) <;> omega) | ((try simp only [he97.eq]); unfold jsy; (repeat' split) <;> omega))⟩, rfl⟩)
      · refine Jz_iconst 1 dX7_stepY_93 (by decide) (fun y93 he93 => ?_)
        refine J_goto (tgt := 98) dX7_stepY_94 (by decide) ?_
        exact J_ret (r := some (.int _)) dX7_stepY_98 ⟨rfl, _, rfl, rfl⟩ (⟨⟨_, rfl, (by (try simp only [he93.eq, true_and, and_true]) <;> omega), (by (try simp only [he93.eq, true_and, and_true]) <;> omega), (by first | ((try simp only [he93.eq, true_and, and_true]) <;> omega) | ((try simp only [he93.eq]); unfold jsy; (repeat' split) <;> omega))⟩, rfl⟩)
    · refine Jz_iconst 0 dX7_stepY_83 (by decide) (fun y83 he83 => ?_)
      refine J_goto (tgt := 98) dX7_stepY_84 (by decide) ?_
      exact J_ret (r := some (.int _)) dX7_stepY_98 ⟨rfl, _, rfl, rfl⟩ (⟨⟨_, rfl, (by (try simp only [he83.eq, true_and, and_true]) <;> omega), (by (try simp only [he83.eq, true_and, and_true]) <;> omega), (by first | ((try simp only [he83.eq, true_and, and_true]) <;> omega) | ((try simp only [he83.eq]); unfold jsy; (repeat' split) <;> omega))⟩, rfl⟩)
  · refine J_tableOut (tgt := 99) dX7_stepY_1 (Or.inl hx1) (by decide) ?_
    refine J_iload_n dX7_stepY_99 rfl ?_
    refine Jz_iconst 1 dX7_stepY_100 (by decide) (fun y100 he100 => ?_)
    refine Jz_icmp_ne (tgt := 108) jEq.rf he100 dX7_stepY_101 (by decide) (fun c101 => ?_) (fun c101 => ?_)
    · refine J_iload_n dX7_stepY_108 rfl ?_
      refine Jz_iconst 4 dX7_stepY_109 (by decide) (fun y109 he109 => ?_)
      refine Jz_icmp_ne (tgt := 117) jEq.rf he109 dX7_stepY_110 (by decide) (fun c110 => ?_) (fun c110 => ?_)
      · refine Jz_iconst 0 dX7_stepY_117 (by decide) (fun y117 he117 => ?_)
        exact J_ret (r := some (.int _)) dX7_stepY_118 ⟨rfl, _, rfl, rfl⟩ (⟨⟨_, rfl, (by (try simp only [he117.eq, true_and, and_true]) <;> omega), (by (try simp only [he117.eq, true_and, and_true]) <;> omega), (by first | ((try simp only [he117.eq, true_and, and_true]) <;> omega) | ((try simp only [he117.eq]); unfold jsy; (repeat' split) <;> omega))⟩, rfl⟩)
      · refine Jz_iconst (-1) dX7_stepY_113 (by decide) (fun y113 he113 => ?_)
        refine J_goto (tgt := 118) dX7_stepY_114 (by decide) ?_
        exact J_ret (r := some (.int _)) dX7_stepY_118 ⟨rfl, _, rfl, rfl⟩ (⟨⟨_, rfl, (by (try simp only [he113.eq, true_and, and_true]) <;> omega), (by (try simp only [he113.eq, true_and, and_true]) <;> omega), (by first | ((try simp only [he113.eq, true_and, and_true]) <;> omega) | ((try simp only [he113.eq]); unfold jsy; (repeat' split) <;> omega))⟩, rfl⟩)
    · refine Jz_iconst 1 dX7_stepY_104 (by decide) (fun y104 he104 => ?_)
      refine J_goto (tgt := 118) dX7_stepY_105 (by decide) ?_
      exact J_ret (r := some (.int _)) dX7_stepY_118 ⟨rfl, _, rfl, rfl⟩ (⟨⟨_, rfl, (by (try simp only [he104.eq, true_and, and_true]) <;> omega), (by (try simp only [he104.eq, true_and, and_true]) <;> omega), (by first | ((try simp only [he104.eq, true_and, and_true]) <;> omega) | ((try simp only [he104.eq]); unfold jsy; (repeat' split) <;> omega))⟩, rfl⟩)
  · refine J_tableOut (tgt := 99) dX7_stepY_1 (Or.inr hx1) (by decide) ?_
    refine J_iload_n dX7_stepY_99 rfl ?_
    refine Jz_iconst 1 dX7_stepY_100 (by decide) (fun y100 he100 => ?_)
    refine Jz_icmp_ne (tgt := 108) jEq.rf he100 dX7_stepY_101 (by decide) (fun c101 => ?_) (fun c101 => ?_)
    · refine J_iload_n dX7_stepY_108 rfl ?_
      refine Jz_iconst 4 dX7_stepY_109 (by decide) (fun y109 he109 => ?_)
      refine Jz_icmp_ne (tgt := 117) jEq.rf he109 dX7_stepY_110 (by decide) (fun c110 => ?_) (fun c110 => ?_)
      · refine Jz_iconst 0 dX7_stepY_117 (by decide) (fun y117 he117 => ?_)
        exact J_ret (r := some (.int _)) dX7_stepY_118 ⟨rfl, _, rfl, rfl⟩ (⟨⟨_, rfl, (by (try simp only [he117.eq, true_and, and_true]) <;> omega), (by (try simp only [he117.eq, true_and, and_true]) <;> omega), (by first | ((try simp only [he117.eq, true_and, and_true]) <;> omega) | ((try simp only [he117.eq]); unfold jsy; (repeat' split) <;> omega))⟩, rfl⟩)
      · refine Jz_iconst (-1) dX7_stepY_113 (by decide) (fun y113 he113 => ?_)
        refine J_goto (tgt := 118) dX7_stepY_114 (by decide) ?_
        exact J_ret (r := some (.int _)) dX7_stepY_118 ⟨rfl, _, rfl, rfl⟩ (⟨⟨_, rfl, (by (try simp only [he113.eq, true_and, and_true]) <;> omega), (by (try simp only [he113.eq, true_and, and_true]) <;> omega), (by first | ((try simp only [he113.eq, true_and, and_true]) <;> omega) | ((try simp only [he113.eq]); unfold jsy; (repeat' split) <;> omega))⟩, rfl⟩)
    · refine Jz_iconst 1 dX7_stepY_104 (by decide) (fun y104 he104 => ?_)
      refine J_goto (tgt := 118) dX7_stepY_105 (by decide) ?_
      exact J_ret (r := some (.int _)) dX7_stepY_118 ⟨rfl, _, rfl, rfl⟩ (⟨⟨_, rfl, (by (try simp only [he104.eq, true_and, and_true]) <;> omega), (by (try simp only [he104.eq, true_and, and_true]) <;> omega), (by first | ((try simp only [he104.eq, true_and, and_true]) <;> omega) | ((try simp only [he104.eq]); unfold jsy; (repeat' split) <;> omega))⟩, rfl⟩)
set_option maxRecDepth 100000 in
set_option maxHeartbeats 8000000 in
theorem w_X7_stepZ_z {tS : jTS} (d : Nat) (V0 : jH) (x0 : Int32) (x1 : Int32) (hd : 0 ≤ d)  (hp0 : 0 ≤ x0.toInt) (hp1 : x0.toInt ≤ 3) : jTot tS mX7_stepZ d [.int x0, .int x1] V0 0 0 (fun r V => (fun r _ => ∃ y : Int32, r = some (.int y) ∧ ((-1) ≤ y.toInt) ∧ (y.toInt ≤ 1) ∧ (y.toInt = jsz x0.toInt x1.toInt)) r V ∧ V = V0) := by
  refine jTot.of_J [some (.int x0), some (.int x1)] moX7_stepZ (Nat.le_of_ble_eq_true rfl) rfl ?_
  have hrx0 := j_rng x0
  have hrx1 := j_rng x1
  refine J_iload_n dX7_stepZ_0 rfl ?_
  refine Jz_iconst 3 dX7_stepZ_1 (by decide) (fun y1 he1 => ?_)
  refine Jz_icmp_eq (tgt := 9) jEq.rf he1 dX7_stepZ_2 (by decide) (fun c2 => ?_) (fun c2 => ?_)
  · refine J_iload_n dX7_stepZ_9 rfl ?_
    refine Jz_iconst 2 dX7_stepZ_10 (by decide) (fun y10 he10 => ?_)
    refine Jz_icmp_ne (tgt := 18) jEq.rf he10 dX7_stepZ_11 (by decide) (fun c11 => ?_) (fun c11 => ?_)
    · refine J_iload_n dX7_stepZ_18 rfl ?_
      refine Jz_iconst 5 dX7_stepZ_19 (by decide) (fun y19 he19 => ?_)
      refine Jz_icmp_ne (tgt := 27) jEq.rf he19 dX7_stepZ_20 (by decide) (fun c20 => ?_) (fun c20 => ?_)
      · refine Jz_iconst 0 dX7_stepZ_27 (by decide) (fun y27 he27 => ?_)
        exact J_ret (r := some (.int _)) dX7_stepZ_28 ⟨rfl, _, rfl, rfl⟩ (⟨⟨_, rfl, (by (try simp only [he27.eq, true_and, and_true]) <;> omega), (by (try simp only [he27.eq, true_and, and_true]) <;> omega), (by first | ((try simp only [he27.eq, true_and, and_true]) <;> omega) | ((try simp only [he27.eq]); unfold jsz; (repeat' split) <;> omega))⟩, rfl⟩)
      · refine Jz_iconst (-1) dX7_stepZ_23 (by decide) (fun y23 he23 => ?_)
        refine J_goto (tgt := 28) dX7_stepZ_24 (by decide) ?_
        exact J_ret (r := some (.int _)) dX7_stepZ_28 ⟨rfl, _, rfl, rfl⟩ (⟨⟨_, rfl, (by (try simp only [he23.eq, true_and, and_true]) <;> omega), (by (try simp only [he23.eq, true_and, and_true]) <;> omega), (by first | ((try simp only [he23.eq, true_and, and_true]) <;> omega) | ((try simp only [he23.eq]); unfold jsz; (repeat' split) <;> omega))⟩, rfl⟩)
    · refine Jz_iconst 1 dX7_stepZ_14 (by decide) (fun y14 he14 => ?_)
      refine J_goto (tgt := 28) dX7_stepZ_15 (by decide) ?_
      exact J_ret (r := some (.int _)) dX7_stepZ_28 ⟨rfl, _, rfl, rfl⟩ (⟨⟨_, rfl, (by (try simp only [he14.eq, true_and, and_true]) <;> omega), (by (try simp only [he14.eq, true_and, and_true]) <;> omega), (by first | ((try simp only [he14.eq, true_and, and_true]) <;> omega) | ((try simp only [he14.eq]); unfold jsz; (repeat' split) <;> omega))⟩, rfl⟩)
  · refine Jz_iconst 0 dX7_stepZ_5 (by decide) (fun y5 he5 => ?_)
    refine J_goto (tgt := 28) dX7_stepZ_6 (by decide) ?_
    exact J_ret (r := some (.int _)) dX7_stepZ_28 ⟨rfl, _, rfl, rfl⟩ (⟨⟨_, rfl, (by (try simp only [he5.eq, true_and, and_true]) <;> omega), (by (try simp only [he5.eq, true_and, and_true]) <;> omega), (by first | ((try simp only [he5.eq, true_and, and_true]) <;> omega) | ((try simp only [he5.eq]); unfold jsz; (repeat' split) <;> omega))⟩, rfl⟩)
