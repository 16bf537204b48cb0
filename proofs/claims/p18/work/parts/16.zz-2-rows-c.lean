set_option maxRecDepth 100000 in
set_option maxHeartbeats 8000000 in
theorem w_X7_turnsAll_z {tS : jTS} (d : Nat) (V0 : jH) (a0 : Nat) (x1 : Int32) (x2 : Int32) (x3 : Int32) (qd : Int32) (rb : Nat) (qq : Nat) (R : Nat) (L : List Nat) (MT : Nat → Int32) (QU : Nat → Int32) (hd : 2 ≤ d) (hW : WT V0) (ha0 : jis V0 (.inr 5) a0) (hf_qd : jfI V0 a0 5 22 qd) (hr_rb : jfR V0 a0 5 20 rb) (hr_qq : jfR V0 a0 5 21 qq) (ha_MT : V0 rb = some (.inl (42, 10000, .inl MT))) (ha_QU : V0 qq = some (.inl (29, 10000, .inl QU))) (hp0 : 0 ≤ x1.toInt) (hp1 : x1.toInt ≤ 3) (hp2 : 1 ≤ x2.toInt) (hp3 : x2.toInt ≤ 6) (hp4 : 0 ≤ x3.toInt) (hp5 : R ≤ 10000) (hp6 : R = (jdir x1.toInt).toNat ^ x2.toInt.toNat) (hp7 : jrr9 R MT QU qd.toInt L) : jTot tS mX7_turnsAll d [.ref a0, .int x1, .int x2, .int x3] V0 0 0 (fun r V => (jPost [.inr 5, .inl 17, .inl 18, .inl 19, .inl 20, .inl 42, .inl 29] V0 rV) r V ∧ (∃ (MT2 QU2 : Nat → Int32) (q2 : Int32), V rb = some (.inl (42, 10000, .inl MT2)) ∧ V qq = some (.inl (29, 10000, .inl QU2)) ∧ jfI V a0 5 22 q2 ∧ jrr9 R MT2 QU2 q2.toInt (jtas x1.toInt (jdir x1.toInt).toNat x2.toInt.toNat (jtur x1.toInt).toNat x3.toInt.toNat L (x2.toInt.toNat * (jtur x1.toInt).toNat))) ∧ jkc 5 [0, 23, 24] V0 V) := by
  refine jTot.of_J [some (.ref a0), some (.int x1), some (.int x2), some (.int x3), none, none, none, none] moX7_turnsAll (Nat.le_of_ble_eq_true rfl) rfl ?_
  have hrx1 := j_rng x1
  have hrx2 := j_rng x2
  have hrx3 := j_rng x3
  have he : jeff [.inr 5, .inl 17, .inl 18, .inl 19, .inl 20, .inl 42, .inl 29] V0 V0 := jeff.refl _ _
  have hkp : jkc 5 [0, 23, 24] V0 V0 := jkc.rf
  obtain ⟨fs_a0, hO_a0, hK_a0⟩ := WT_obj hW id ha0
  have hF_qd := hf_qd.get hO_a0
  have hrqd : (-2147483648) ≤ qd.toInt ∧ qd.toInt ≤ 2147483647 := jok_rngI hK_a0 rfl hF_qd
  have hF_rb := hr_rb.get hO_a0
  obtain ⟨w_rb, hFq_rb, b_rb, hbq_rb, hb_rb⟩ := hK_a0.2 20 (.inr (some (.inl 42))) rfl
  cases hF_rb.symm.trans (hFq_rb.trans (congrArg some hbq_rb))
  have hF_qq := hr_qq.get hO_a0
  obtain ⟨w_qq, hFq_qq, b_qq, hbq_qq, hb_qq⟩ := hK_a0.2 21 (.inr (some (.inl 29))) rfl
  cases hF_qq.symm.trans (hFq_qq.trans (congrArg some hbq_qq))
  obtain ⟨hN_MT, hv_MT⟩ := WT_rngI (r := (0, 1)) hW id rfl ha_MT
  clear hN_MT
  obtain ⟨hN_QU, hv_QU⟩ := WT_rngI (r := (0, 9999)) hW id rfl ha_QU
  clear hN_QU
  have hjb : 3 ≤ jdir x1.toInt ∧ jdir x1.toInt ≤ 6 := by have q := jdir_cases x1.toInt; omega
  have hDn : (((jdir x1.toInt).toNat : Nat) : Int) = jdir x1.toInt := Int.toNat_of_nonneg (by omega)
  have hD0 : 0 < (jdir x1.toInt).toNat := by omega
  have hjt0 : 0 ≤ jtur x1.toInt := by have q := jtur_cases x1.toInt; omega
  have hjt9 : jtur x1.toInt ≤ 48 := by have q := jtur_cases x1.toInt; omega
  refine Jz_iconst 0 dX7_turnsAll_0 (by decide) (fun y0 he0 => ?_)
  refine J_istore dX7_turnsAll_1 rfl (by decide) ?_
  have L3 : ∀ (N : Nat) (V : jH) (i4n3 : Int32) (gs3a0 : List Value) (g22n3 : Int32) (F42n3 : Nat → Int32) (F29n3 : Nat → Int32), WT V → jeff [.inr 5, .inl 17, .inl 18, .inl 19, .inl 20, .inl 42, .inl 29] V0 V → (jis V (.inr 5) a0) → (jis V (.inl 42) rb) → (jis V (.inl 29) qq) → (jkc 5 [0, 23, 24] V0 V) → (V a0 = some (.inr (5, gs3a0))) → (gs3a0[22]? = some (.int g22n3)) → (gs3a0[20]? = some (.ref rb)) → (gs3a0[21]? = some (.ref qq)) → (V rb = some (.inl (42, 10000, .inl F42n3))) → (V qq = some (.inl (29, 10000, .inl F29n3))) → (0 ≤ i4n3.toInt ∧ i4n3.toInt ≤ x2.toInt) → (jrr9 R F42n3 F29n3 g22n3.toInt (jtas x1.toInt (jdir x1.toInt).toNat x2.toInt.toNat (jtur x1.toInt).toNat x3.toInt.toNat L (i4n3.toInt.toNat * (jtur x1.toInt).toNat))) → (300 - i4n3.toInt).toNat < N → J tS mX7_turnsAll d 3 [some (.ref a0), some (.int x1), some (.int x2), some (.int x3), some (.int i4n3), none, none, none] [] V 0 0 (fun r V => (jPost [.inr 5, .inl 17, .inl 18, .inl 19, .inl 20, .inl 42, .inl 29] V0 rV) r V ∧ (∃ (MT2 QU2 : Nat → Int32) (q2 : Int32), V rb = some (.inl (42, 10000, .inl MT2)) ∧ V qq = some (.inl (29, 10000, .inl QU2)) ∧ jfI V a0 5 22 q2 ∧ jrr9 R MT2 QU2 q2.toInt (jtas x1.toInt (jdir x1.toInt).toNat x2.toInt.toNat (jtur x1.toInt).toNat x3.toInt.toNat L (x2.toInt.toNat * (jtur x1.toInt).toNat))) ∧ jkc 5 [0, 23, 24] V0 V) := by
    intro N
    induction N with
    | zero => intro V i4n3 gs3a0 g22n3 F42n3 F29n3 hW he ha0 hb_rb hb_qq hkp hOgs3a0 hFgs3a0_22 hFgs3a0_20 hFgs3a0_21 hAF42n3 hAF29n3 hi4 hq4 hm; exact absurd hm (Nat.not_lt_zero _)
    | succ N ih =>
      intro V i4n3 gs3a0 g22n3 F42n3 F29n3 hW he ha0 hb_rb hb_qq hkp hOgs3a0 hFgs3a0_22 hFgs3a0_20 hFgs3a0_21 hAF42n3 hAF29n3 hi4 hq4 hm
      have ih3 := ih
      have hri4 := j_rng i4n3
      have hKgs3a0 : jokO V (jFs 5) gs3a0 := hW _ _ id hOgs3a0
      have hrgg22n3 : (-2147483648) ≤ g22n3.toInt ∧ g22n3.toInt ≤ 2147483647 := jok_rngI hKgs3a0 rfl hFgs3a0_22
      obtain ⟨hNF42n3, hvF42n3⟩ := WT_rngI (r := (0, 1)) hW id rfl hAF42n3
      clear hNF42n3
      obtain ⟨hNF29n3, hvF29n3⟩ := WT_rngI (r := (0, 9999)) hW id rfl hAF29n3
      clear hNF29n3
      refine J_iload dX7_turnsAll_3 rfl ?_
      refine J_iload_n dX7_turnsAll_5 rfl ?_
      refine Jz_icmp_ge (tgt := 136) jEq.rf jEq.rf dX7_turnsAll_6 (by decide) (fun c6 => ?_) (fun c6 => ?_)
      · exact J_ret (r := none) dX7_turnsAll_136 ⟨rfl, rfl⟩ (⟨⟨hW, he, rfl⟩, ⟨F42n3, F29n3, g22n3, hAF42n3, hAF29n3, ⟨_, hOgs3a0, hFgs3a0_22⟩, (by have q := hq4; rw [show i4n3.toInt.toNat = x2.toInt.toNat by omega] at q; exact q)⟩, hkp⟩)
      · refine Jz_iconst 0 dX7_turnsAll_9 (by decide) (fun y9 he9 => ?_)
        refine J_istore dX7_turnsAll_10 rfl (by decide) ?_
        have L12 : ∀ (N : Nat) (V : jH) (i5n12 : Int32) (gs12a0 : List Value) (g22n12 : Int32) (F42n12 : Nat → Int32) (F29n12 : Nat → Int32), WT V → jeff [.inr 5, .inl 17, .inl 18, .inl 19, .inl 20, .inl 42, .inl 29] V0 V → (jis V (.inr 5) a0) → (jis V (.inl 42) rb) → (jis V (.inl 29) qq) → (jkc 5 [0, 23, 24] V0 V) → (V a0 = some (.inr (5, gs12a0))) → (gs12a0[22]? = some (.int g22n12)) → (gs12a0[20]? = some (.ref rb)) → (gs12a0[21]? = some (.ref qq)) → (V rb = some (.inl (42, 10000, .inl F42n12))) → (V qq = some (.inl (29, 10000, .inl F29n12))) → (0 ≤ i5n12.toInt ∧ i5n12.toInt ≤ jtur x1.toInt) → (jrr9 R F42n12 F29n12 g22n12.toInt (jtas x1.toInt (jdir x1.toInt).toNat x2.toInt.toNat (jtur x1.toInt).toNat x3.toInt.toNat L (i4n3.toInt.toNat * (jtur x1.toInt).toNat + i5n12.toInt.toNat))) → (300 - i5n12.toInt).toNat < N → J tS mX7_turnsAll d 12 [some (.ref a0), some (.int x1), some (.int x2), some (.int x3), some (.int i4n3), some (.int i5n12), none, none] [] V 0 0 (fun r V => (jPost [.inr 5, .inl 17, .inl 18, .inl 19, .inl 20, .inl 42, .inl 29] V0 rV) r V ∧ (∃ (MT2 QU2 : Nat → Int32) (q2 : Int32), V rb = some (.inl (42, 10000, .inl MT2)) ∧ V qq = some (.inl (29, 10000, .inl QU2)) ∧ jfI V a0 5 22 q2 ∧ jrr9 R MT2 QU2 q2.toInt (jtas x1.toInt (jdir x1.toInt).toNat x2.toInt.toNat (jtur x1.toInt).toNat x3.toInt.toNat L (x2.toInt.toNat * (jtur x1.toInt).toNat))) ∧ jkc 5 [0, 23, 24] V0 V) := by
          intro N
          induction N with
          | zero => intro V i5n12 gs12a0 g22n12 F42n12 F29n12 hW he ha0 hb_rb hb_qq hkp hOgs12a0 hFgs12a0_22 hFgs12a0_20 hFgs12a0_21 hAF42n12 hAF29n12 hi5 hq5 hm; exact absurd hm (Nat.not_lt_zero _)
          | succ N ih =>
            intro V i5n12 gs12a0 g22n12 F42n12 F29n12 hW he ha0 hb_rb hb_qq hkp hOgs12a0 hFgs12a0_22 hFgs12a0_20 hFgs12a0_21 hAF42n12 hAF29n12 hi5 hq5 hm
            have ih12 := ih
            have hri5 := j_rng i5n12
            have hKgs12a0 : jokO V (jFs 5) gs12a0 := hW _ _ id hOgs12a0
            have hrgg22n12 : (-2147483648) ≤ g22n12.toInt ∧ g22n12.toInt ≤ 2147483647 := jok_rngI hKgs12a0 rfl hFgs12a0_22
            obtain ⟨hNF42n12, hvF42n12⟩ := WT_rngI (r := (0, 1)) hW id rfl hAF42n12
            clear hNF42n12
            obtain ⟨hNF29n12, hvF29n12⟩ := WT_rngI (r := (0, 9999)) hW id rfl hAF29n12
            clear hNF29n12
            refine J_iload dX7_turnsAll_12 rfl ?_
            refine J_iload_n dX7_turnsAll_14 rfl ?_
            refine J_callS1 moX7_turns jw_ml_X7_143 jw_st_X7_turns dX7_turnsAll_15 (w_X7_turns (d - 1) _ x1 (by omega)   ) (by omega) (Nat.zero_le _) (Nat.zero_le _) (Nat.le_of_ble_eq_true rfl) (fun r15 V15 h15 => ?_)
            obtain ⟨⟨y15, rfl, hl15, hh15, hP15_0⟩, hE15⟩ := h15
            have hE15 := hE15.symm
            subst hE15
            have hz15 : jEq y15.toInt (jtur (x1.toInt)) := hP15_0
            simp only [hP15_0] at hl15 hh15
            clear hP15_0
            refine Jz_icmp_ge (tgt := 130) jEq.rf hz15 dX7_turnsAll_18 (by decide) (fun c18 => ?_) (fun c18 => ?_)
            · refine Jz_iinc 1 dX7_turnsAll_130 rfl rfl (by decide) jEq.rf (by decide) (by omega) (by omega) (fun y130 he130 => ?_)
              refine J_goto (tgt := 3) dX7_turnsAll_133 (by decide) ?_
              refine J.mask [true, true, true, true, true, false, false, false] ?_
              exact ih3 _ y130 gs12a0 g22n12 F42n12 F29n12 hW he ha0 hb_rb hb_qq hkp hOgs12a0 hFgs12a0_22 hFgs12a0_20 hFgs12a0_21 hAF42n12 hAF29n12 (by (try simp only [he130.eq, true_and, and_true]) <;> omega) (by rw [he130.eq, show (i4n3.toInt + 1).toNat = i4n3.toInt.toNat + 1 by omega, Nat.add_mul, Nat.one_mul]; have q := hq5; rw [show i5n12.toInt.toNat = (jtur x1.toInt).toNat by omega] at q; exact q) (by (try simp only [he130.eq, true_and, and_true]) <;> omega)
            · refine J_aload_n dX7_turnsAll_21 rfl ?_
              refine J_iload_n dX7_turnsAll_22 rfl ?_
              refine J_iload_n dX7_turnsAll_23 rfl ?_
              refine J_iload_n dX7_turnsAll_24 rfl ?_
              obtain ⟨w25p4, hF25p4, b25p4, rfl, hb25p4⟩ := hKgs12a0.2 4 (.inr (some (.inl 17))) rfl
              obtain ⟨n25q17, f25q17, hA25q17, hN25q17, hM25q17, hv25q17⟩ := WT_arrI (r := (-2147483648, 2147483647)) hW id rfl hb25p4
              obtain rfl := hM25q17 120 rfl
              clear hN25q17 hM25q17
              refine Jw_callV3 (q9 := (RX7, TX7, 34)) moX7_rowOf jw_ml_X7_198 jw_im_X7_rowOf jw_se_X7_rowOf ha0 rfl rfl dX7_turnsAll_25 (w_X7_rowOf_z (d - 1) _ a0 x1 x2 x3 g22n12 b25p4 f25q17 (by omega) hW  ha0 ⟨_, hOgs12a0, hFgs12a0_22⟩ ⟨_, hOgs12a0, hF25p4⟩ hA25q17 (by omega) (by omega) (by omega) (by omega) (by omega)) (by omega) (Nat.zero_le _) (Nat.zero_le _) (Nat.le_of_ble_eq_true rfl) (fun r25 V25 h25 => ?_)
              obtain ⟨h25, hX25_0, hX25_1, ⟨fv25_0, hfv25_0, hfp25_0⟩, ⟨fv25_1, hfv25_1, hfp25_1⟩⟩ := h25
              obtain ⟨hW, hx25, hr25⟩ := h25
              have he := he.trans (hx25.sub (jsub_of rfl))
              have hkp := hkp.trans hX25_1
              have ha0 := ha0.mono hx25.1
              have hb_rb := hb_rb.mono hx25.1
              have hb_qq := hb_qq.mono hx25.1
              have hb25p4 := hb25p4.mono hx25.1
              obtain ⟨fs25a0, hOfs25a0, hRfs25a0⟩ := hx25.1.keep hOgs12a0
              have hKfs25a0 : jokO _ (jFs 5) fs25a0 := hW _ _ id hOfs25a0
              have hFfs25a0_20 := hRfs25a0 _ _ hFgs12a0_20
              have hFfs25a0_21 := hRfs25a0 _ _ hFgs12a0_21
              have hFfs25a0_4 := hRfs25a0 _ _ hF25p4
              have hAF42n12 := hx25.2 _ _ hAF42n12 (jnot_of rfl)
              have hAF29n12 := hx25.2 _ _ hAF29n12 (jnot_of rfl)
              cases hr25
              have hFv25_0 := hfv25_0.get hOfs25a0
              have hsb25_0 : x2 = fv25_0 := (jI_inj.mp hfp25_0).symm
              subst hsb25_0
              have hFv25_1 := hfv25_1.get hOfs25a0
              have hsb25_1 : g22n12 = fv25_1 := (jI_inj.mp hfp25_1).symm
              subst hsb25_1
              obtain ⟨F25x, hA25x, hc25⟩ := hX25_0
              have e4 : ((i4n3.toInt.toNat : Nat) : Int) = i4n3.toInt := Int.toNat_of_nonneg (by omega)
              have e5 : ((i5n12.toInt.toNat : Nat) : Int) = i5n12.toInt := Int.toNat_of_nonneg (by omega)
              have hdb : ∀ i : Nat, 0 ≤ jdg9 (jdir x1.toInt).toNat x2.toInt.toNat x3.toInt.toNat i ∧ jdg9 (jdir x1.toInt).toNat x2.toInt.toNat x3.toInt.toNat i < jdir x1.toInt := fun i => by have q := jdg9_b (D := (jdir x1.toInt).toNat) (n := x2.toInt.toNat) (v := x3.toInt.toNat) (i := i) hD0; omega
              have htt := jTp_rng (T := jdg9 (jdir x1.toInt).toNat x2.toInt.toNat x3.toInt.toNat) (g := x1.toInt) (n := x2.toInt) (t := i5n12.toInt) (k := i4n3.toInt) ⟨hp0, hp1⟩ ⟨hi5.1, by omega⟩ (fun j _ => hdb j)
              obtain ⟨hN_F25x, hv_F25x⟩ := WT_rngI (r := ((-2147483648), 2147483647)) hW id rfl hA25x
              clear hN_F25x
              refine Jz_iconst 0 dX7_turnsAll_28 (by decide) (fun y28 he28 => ?_)
              refine J_istore dX7_turnsAll_29 rfl (by decide) ?_
              refine Jz_iconst 0 dX7_turnsAll_31 (by decide) (fun y31 he31 => ?_)
              refine J_istore dX7_turnsAll_32 rfl (by decide) ?_
              have L34 : ∀ (N : Nat) (V : jH) (i6n34 : Int32) (i7n34 : Int32) (F17n34 : Nat → Int32), WT V → jeff [.inr 5, .inl 17, .inl 18, .inl 19, .inl 20, .inl 42, .inl 29] V0 V → (jis V (.inr 5) a0) → (jis V (.inl 42) rb) → (jis V (.inl 29) qq) → (jis V (.inl 17) b25p4) → (jkc 5 [0, 23, 24] V0 V) → (V a0 = some (.inr (5, fs25a0))) → (jokO V (jFs 5) fs25a0) → (V b25p4 = some (.inl (17, 120, .inl F17n34))) → (V rb = some (.inl (42, 10000, .inl F42n12))) → (V qq = some (.inl (29, 10000, .inl F29n12))) → (0 ≤ i7n34.toInt ∧ i7n34.toInt ≤ x2.toInt) → (i6n34.toInt = ((jnm (jdir x1.toInt).toNat (jTp x1.toInt i5n12.toInt i4n3.toInt (jdg9 (jdir x1.toInt).toNat x2.toInt.toNat x3.toInt.toNat)) i7n34.toInt.toNat : Nat) : Int)) → (∀ i : Nat, (i : Int) < i7n34.toInt → (F17n34 i).toInt = (jTp x1.toInt i5n12.toInt i4n3.toInt (jdg9 (jdir x1.toInt).toNat x2.toInt.toNat x3.toInt.toNat)) i) → (∀ i : Nat, i7n34.toInt ≤ (i : Int) → i < x2.toInt.toNat → (F17n34 i).toInt = jdg9 (jdir x1.toInt).toNat x2.toInt.toNat x3.toInt.toNat i) → (300 - i7n34.toInt).toNat < N → J tS mX7_turnsAll d 34 [some (.ref a0), some (.int x1), some (.int x2), some (.int x3), some (.int i4n3), some (.int i5n12), some (.int i6n34), some (.int i7n34)] [] V 0 0 (fun r V => (jPost [.inr 5, .inl 17, .inl 18, .inl 19, .inl 20, .inl 42, .inl 29] V0 rV) r V ∧ (∃ (MT2 QU2 : Nat → Int32) (q2 : Int32), V rb = some (.inl (42, 10000, .inl MT2)) ∧ V qq = some (.inl (29, 10000, .inl QU2)) ∧ jfI V a0 5 22 q2 ∧ jrr9 R MT2 QU2 q2.toInt (jtas x1.toInt (jdir x1.toInt).toNat x2.toInt.toNat (jtur x1.toInt).toNat x3.toInt.toNat L (x2.toInt.toNat * (jtur x1.toInt).toNat))) ∧ jkc 5 [0, 23, 24] V0 V) := by
                intro N
                induction N with
                | zero => intro V i6n34 i7n34 F17n34 hW he ha0 hb_rb hb_qq hb25p4 hkp hOfs25a0 hKfs25a0 hAF17n34 hAF42n12 hAF29n12 hi7 hto hrA hrB hm; exact absurd hm (Nat.not_lt_zero _)
                | succ N ih =>
                  intro V i6n34 i7n34 F17n34 hW he ha0 hb_rb hb_qq hb25p4 hkp hOfs25a0 hKfs25a0 hAF17n34 hAF42n12 hAF29n12 hi7 hto hrA hrB hm
                  have ih34 := ih
                  have hri7 := j_rng i7n34
                  obtain ⟨hNF17n34, hvF17n34⟩ := WT_rngI (r := ((-2147483648), 2147483647)) hW id rfl hAF17n34
                  clear hNF17n34
                  refine J_iload dX7_turnsAll_34 rfl ?_
                  refine J_iload_n dX7_turnsAll_36 rfl ?_
                  refine Jz_icmp_ge (tgt := 100) jEq.rf jEq.rf dX7_turnsAll_37 (by decide) (fun c37 => ?_) (fun c37 => ?_)
                  · have hto9 : i6n34.toInt = (((jto x1.toInt (jdir x1.toInt).toNat x2.toInt.toNat x3.toInt.toNat i4n3.toInt.toNat i5n12.toInt) : Nat) : Int) := by
                      rw [hto, show i7n34.toInt.toNat = x2.toInt.toNat by omega]
                      exact congrArg (fun z : Nat => (z : Int)) (jto_eq e4 (fun _ _ => rfl))
                    have htl : (jto x1.toInt (jdir x1.toInt).toNat x2.toInt.toNat x3.toInt.toNat i4n3.toInt.toNat i5n12.toInt) < R := by
                      rw [hp6]
                      exact jto_lt e4 ⟨hp0, hp1⟩ ⟨hi5.1, by omega⟩ hDn hD0
                    refine J_aload_n dX7_turnsAll_100 rfl ?_
                    refine J_get jf_X7_67 dX7_turnsAll_101 hOfs25a0 hFfs25a0_20 ?_
                    refine J_iload dX7_turnsAll_104 rfl ?_
                    refine Jz_zald (r := (0, 1)) jEq.rf dX7_turnsAll_106 hAF42n12 rfl hvF42n12 (by omega) (by omega) (fun y106 hf106 hl106 hh106 => ?_)
                    dsimp only at hl106 hh106
                    have e106 : (F42n12 (jto x1.toInt (jdir x1.toInt).toNat x2.toInt.toNat x3.toInt.toNat i4n3.toInt.toNat i5n12.toInt)).toInt = y106.toInt := by rw [← hf106, hto9]; rfl
                    refine Jz_if_ne (tgt := 124) jEq.rf dX7_turnsAll_107 (by decide) (fun c107 => ?_) (fun c107 => ?_)
                    · have hmet : ¬ (F42n12 (jto x1.toInt (jdir x1.toInt).toNat x2.toInt.toNat x3.toInt.toNat i4n3.toInt.toNat i5n12.toInt)).toInt = 0 := by rw [e106]; omega
                      refine Jz_iinc 1 dX7_turnsAll_124 rfl rfl (by decide) jEq.rf (by decide) (by omega) (by omega) (fun y124 he124 => ?_)
                      refine J_goto (tgt := 12) dX7_turnsAll_127 (by decide) ?_
                      refine J.mask [true, true, true, true, true, true, false, false] ?_
                      exact ih12 _ y124 fs25a0 g22n12 F42n12 F29n12 hW he ha0 hb_rb hb_qq hkp hOfs25a0 hFv25_1 hFfs25a0_20 hFfs25a0_21 hAF42n12 hAF29n12 (by (try simp only [he124.eq, true_and, and_true]) <;> omega) (by rw [he124.eq, show (i5n12.toInt + 1).toNat = i5n12.toInt.toNat + 1 by omega, jtas_step (by omega), e5]; exact hq5.same (by omega) (Or.inl hmet)) (by (try simp only [he124.eq, true_and, and_true]) <;> omega)
                    · refine J_aload_n dX7_turnsAll_110 rfl ?_
                      refine J_iload_n dX7_turnsAll_111 rfl ?_
                      obtain ⟨w112p6, hF112p6, b112p6, rfl, hb112p6⟩ := hKfs25a0.2 6 (.inr (some (.inl 18))) rfl
                      obtain ⟨w112p7, hF112p7, b112p7, rfl, hb112p7⟩ := hKfs25a0.2 7 (.inr (some (.inl 19))) rfl
                      obtain ⟨w112p8, hF112p8, b112p8, rfl, hb112p8⟩ := hKfs25a0.2 8 (.inr (some (.inl 20))) rfl
                      obtain ⟨n112q18, f112q18, hA112q18, hN112q18, hM112q18, hv112q18⟩ := WT_arrI (r := (-2147483648, 2147483647)) hW id rfl hb112p6
                      obtain rfl := hM112q18 121 rfl
                      clear hN112q18 hM112q18
                      obtain ⟨n112q19, f112q19, hA112q19, hN112q19, hM112q19, hv112q19⟩ := WT_arrI (r := (-2147483648, 2147483647)) hW id rfl hb112p7
                      obtain rfl := hM112q19 121 rfl
                      clear hN112q19 hM112q19
                      obtain ⟨n112q20, f112q20, hA112q20, hN112q20, hM112q20, hv112q20⟩ := WT_arrI (r := (-2147483648, 2147483647)) hW id rfl hb112p8
                      obtain rfl := hM112q20 121 rfl
                      clear hN112q20 hM112q20
                      refine Jw_callV1 (q9 := (RX7, TX7, 34)) moX7_goes jw_ml_X7_122 jw_im_X7_goes jw_se_X7_goes ha0 rfl rfl dX7_turnsAll_112 (w_X7_goes_z (d - 1) _ a0 x1 x2 b25p4 b112p6 b112p7 b112p8 F17n34 f112q18 f112q19 f112q20 (by omega) hW  ha0 ⟨_, hOfs25a0, hFv25_0⟩ ⟨_, hOfs25a0, hFfs25a0_4⟩ ⟨_, hOfs25a0, hF112p6⟩ ⟨_, hOfs25a0, hF112p7⟩ ⟨_, hOfs25a0, hF112p8⟩ hAF17n34 hA112q18 hA112q19 hA112q20 (by omega) (by omega)) (by omega) (Nat.zero_le _) (Nat.zero_le _) (Nat.le_of_ble_eq_true rfl) (fun r112 V112 h112 => ?_)
                      obtain ⟨h112, hX112_0⟩ := h112
                      obtain ⟨hW, hx112, hr112⟩ := h112
                      have he := he.trans (hx112.sub (jsub_of rfl))
                      have hkp := hkp.trans (jkc.of hx112 (jnot_of rfl))
                      have ha0 := ha0.mono hx112.1
                      have hb_rb := hb_rb.mono hx112.1
                      have hb_qq := hb_qq.mono hx112.1
                      have hb25p4 := hb25p4.mono hx112.1
                      have hb112p6 := hb112p6.mono hx112.1
                      have hb112p7 := hb112p7.mono hx112.1
                      have hb112p8 := hb112p8.mono hx112.1
                      have hOfs25a0 := hx112.2 _ _ hOfs25a0 (jnot_of rfl)
                      have hKfs25a0 := hKfs25a0.mono hx112.1
                      have hAF17n34 := hx112.2 _ _ hAF17n34 (jnot_of rfl)
                      have hAF42n12 := hx112.2 _ _ hAF42n12 (jnot_of rfl)
                      have hAF29n12 := hx112.2 _ _ hAF29n12 (jnot_of rfl)
                      obtain ⟨y112, rfl, hl112, hh112, hP112_0⟩ := hr112
                      have hwi : jav x1.toInt (fun q => (F17n34 q).toInt) x2.toInt.toNat ↔ jwlk x1.toInt (jdir x1.toInt).toNat x2.toInt.toNat (jto x1.toInt (jdir x1.toInt).toNat x2.toInt.toNat x3.toInt.toNat i4n3.toInt.toNat i5n12.toInt) := (show _ ↔ _ from ⟨fun w => w.congr (fun k hk => hrA k (by omega)), fun w => w.congr (fun k hk => (hrA k (by omega)).symm)⟩).trans (jto_walk e4 ⟨hp0, hp1⟩ ⟨hi5.1, by omega⟩ hDn hD0).symm
                      refine Jz_if_eq (tgt := 124) jEq.rf dX7_turnsAll_115 (by decide) (fun c115 => ?_) (fun c115 => ?_)
                      · have hnw : ¬ (jwlk x1.toInt (jdir x1.toInt).toNat x2.toInt.toNat) (jto x1.toInt (jdir x1.toInt).toNat x2.toInt.toNat x3.toInt.toNat i4n3.toInt.toNat i5n12.toInt) := fun z => hP112_0.elim (fun q => absurd q.1 (by omega)) (fun q => q.2 (hwi.mpr z))
                        refine Jz_iinc 1 dX7_turnsAll_124 rfl rfl (by decide) jEq.rf (by decide) (by omega) (by omega) (fun y124 he124 => ?_)
                        refine J_goto (tgt := 12) dX7_turnsAll_127 (by decide) ?_
                        refine J.mask [true, true, true, true, true, true, false, false] ?_
                        exact ih12 _ y124 fs25a0 g22n12 F42n12 F29n12 hW he ha0 hb_rb hb_qq hkp hOfs25a0 hFv25_1 hFfs25a0_20 hFfs25a0_21 hAF42n12 hAF29n12 (by (try simp only [he124.eq, true_and, and_true]) <;> omega) (by rw [he124.eq, show (i5n12.toInt + 1).toNat = i5n12.toInt.toNat + 1 by omega, jtas_step (by omega), e5]; exact hq5.same (by omega) (Or.inr hnw)) (by (try simp only [he124.eq, true_and, and_true]) <;> omega)
                      · have hyw : (jwlk x1.toInt (jdir x1.toInt).toNat x2.toInt.toNat) (jto x1.toInt (jdir x1.toInt).toNat x2.toInt.toNat x3.toInt.toNat i4n3.toInt.toNat i5n12.toInt) := hwi.mp (hP112_0.elim (fun q => q.2) (fun q => absurd q.1 (by omega)))
                        refine J_aload_n dX7_turnsAll_118 rfl ?_
                        refine J_iload dX7_turnsAll_119 rfl ?_
                        refine Jw_callV1 (q9 := (RX7, TX7, 34)) moX7_meets jw_ml_X7_208 jw_im_X7_meets jw_se_X7_meets ha0 rfl rfl dX7_turnsAll_121 (w_X7_meets_z (d - 1) _ a0 i6n34 g22n12 rb qq R (jtas x1.toInt (jdir x1.toInt).toNat x2.toInt.toNat (jtur x1.toInt).toNat x3.toInt.toNat L (i4n3.toInt.toNat * (jtur x1.toInt).toNat + i5n12.toInt.toNat)) (jwlk x1.toInt (jdir x1.toInt).toNat x2.toInt.toNat) F42n12 F29n12 (by omega) hW  ha0 ⟨_, hOfs25a0, hFv25_1⟩ ⟨_, hOfs25a0, hFfs25a0_20⟩ ⟨_, hOfs25a0, hFfs25a0_21⟩ hAF42n12 hAF29n12 (by omega) (by omega) (by omega) hq5 (by rw [show i6n34.toInt.toNat = (jto x1.toInt (jdir x1.toInt).toNat x2.toInt.toNat x3.toInt.toNat i4n3.toInt.toNat i5n12.toInt) by omega]; exact hyw)) (by omega) (Nat.zero_le _) (Nat.zero_le _) (Nat.le_of_ble_eq_true rfl) (fun r121 V121 h121 => ?_)
                        obtain ⟨h121, hX121_0, hX121_1⟩ := h121
                        obtain ⟨hW, hx121, hr121⟩ := h121
                        have he := he.trans (hx121.sub (jsub_of rfl))
                        have hkp := hkp.trans hX121_1
                        have ha0 := ha0.mono hx121.1
                        have hb_rb := hb_rb.mono hx121.1
                        have hb_qq := hb_qq.mono hx121.1
                        have hb25p4 := hb25p4.mono hx121.1
                        have hb112p6 := hb112p6.mono hx121.1
                        have hb112p7 := hb112p7.mono hx121.1
                        have hb112p8 := hb112p8.mono hx121.1
                        obtain ⟨fs121a0, hOfs121a0, hRfs121a0⟩ := hx121.1.keep hOfs25a0
                        have hKfs121a0 : jokO _ (jFs 5) fs121a0 := hW _ _ id hOfs121a0
                        have hFfs121a0_20 := hRfs121a0 _ _ hFfs25a0_20
                        have hFfs121a0_21 := hRfs121a0 _ _ hFfs25a0_21
                        have hFfs121a0_4 := hRfs121a0 _ _ hFfs25a0_4
                        have hFfs121a0_6 := hRfs121a0 _ _ hF112p6
                        have hFfs121a0_7 := hRfs121a0 _ _ hF112p7
                        have hFfs121a0_8 := hRfs121a0 _ _ hF112p8
                        have hAF17n34 := hx121.2 _ _ hAF17n34 (jnot_of rfl)
                        cases hr121
                        obtain ⟨M121, Q121, q121, hMa121, hQa121, hqf121, hrr121⟩ := hX121_0
                        have hrrN : jrr9 R M121 Q121 q121.toInt (jadd (jwlk x1.toInt (jdir x1.toInt).toNat x2.toInt.toNat) (jtas x1.toInt (jdir x1.toInt).toNat x2.toInt.toNat (jtur x1.toInt).toNat x3.toInt.toNat L (i4n3.toInt.toNat * (jtur x1.toInt).toNat + i5n12.toInt.toNat)) (jto x1.toInt (jdir x1.toInt).toNat x2.toInt.toNat x3.toInt.toNat i4n3.toInt.toNat i5n12.toInt)) := by
                          have q := hrr121
                          rw [show i6n34.toInt.toNat = (jto x1.toInt (jdir x1.toInt).toNat x2.toInt.toNat x3.toInt.toNat i4n3.toInt.toNat i5n12.toInt) by omega] at q
                          exact q
                        have hFv12122 := hqf121.get hOfs121a0
                        obtain ⟨hN_M121, hv_M121⟩ := WT_rngI (r := (0, 1)) hW id rfl hMa121
                        clear hN_M121
                        obtain ⟨hN_Q121, hv_Q121⟩ := WT_rngI (r := (0, 9999)) hW id rfl hQa121
                        clear hN_Q121
                        refine Jz_iinc 1 dX7_turnsAll_124 rfl rfl (by decide) jEq.rf (by decide) (by omega) (by omega) (fun y124 he124 => ?_)
                        refine J_goto (tgt := 12) dX7_turnsAll_127 (by decide) ?_
                        refine J.mask [true, true, true, true, true, true, false, false] ?_
                        exact ih12 _ y124 fs121a0 q121 M121 Q121 hW he ha0 hb_rb hb_qq hkp hOfs121a0 hFv12122 hFfs121a0_20 hFfs121a0_21 hMa121 hQa121 (by (try simp only [he124.eq, true_and, and_true]) <;> omega) (by rw [he124.eq, show (i5n12.toInt + 1).toNat = i5n12.toInt.toNat + 1 by omega, jtas_step (by omega), e5]; exact hrrN) (by (try simp only [he124.eq, true_and, and_true]) <;> omega)
                  · have hsd := hdb i7n34.toInt.toNat
                    have htI := htt i7n34.toInt.toNat (by omega)
                    have hlt := jnm_lt (D := (jdir x1.toInt).toNat) (T := (jTp x1.toInt i5n12.toInt i4n3.toInt (jdg9 (jdir x1.toInt).toNat x2.toInt.toNat x3.toInt.toNat))) i7n34.toInt.toNat (fun i hi => by have q := htt i (by omega); omega)
                    have hp5x := jpow5 (D := (jdir x1.toInt).toNat) (k := i7n34.toInt.toNat) (by omega) (by omega)
                    have hn7 : 0 ≤ i6n34.toInt ∧ i6n34.toInt ≤ 7776 := by omega
                    have hq9 : 0 ≤ jdir x1.toInt * i6n34.toInt ∧ jdir x1.toInt * i6n34.toInt ≤ 46656 := ⟨Int.mul_nonneg (by omega) (by omega), Int.le_trans (Int.mul_le_mul hjb.2 hn7.2 (by omega) (by decide)) (by decide)⟩
                    have hdI : (F17n34 i7n34.toInt.toNat).toInt = jdg9 (jdir x1.toInt).toNat x2.toInt.toNat x3.toInt.toNat i7n34.toInt.toNat := hrB i7n34.toInt.toNat (by omega) (by omega)
                    refine J_aload_n dX7_turnsAll_40 rfl ?_
                    refine J_get jf_X7_19 dX7_turnsAll_41 hOfs25a0 hFfs25a0_4 ?_
                    refine J_iload dX7_turnsAll_44 rfl ?_
                    refine J_iload dX7_turnsAll_46 rfl ?_
                    refine J_iload dX7_turnsAll_48 rfl ?_
                    have K76 : ∀ (t0k76 : Int32), (t0k76.toInt = (jTp x1.toInt i5n12.toInt i4n3.toInt (jdg9 (jdir x1.toInt).toNat x2.toInt.toNat x3.toInt.toNat)) i7n34.toInt.toNat) → J tS mX7_turnsAll d 76 [some (.ref a0), some (.int x1), some (.int x2), some (.int x3), some (.int i4n3), some (.int i5n12), some (.int i6n34), some (.int i7n34)] [.int t0k76, .int i7n34, .ref b25p4] V 0 0 (fun r V => (jPost [.inr 5, .inl 17, .inl 18, .inl 19, .inl 20, .inl 42, .inl 29] V0 rV) r V ∧ (∃ (MT2 QU2 : Nat → Int32) (q2 : Int32), V rb = some (.inl (42, 10000, .inl MT2)) ∧ V qq = some (.inl (29, 10000, .inl QU2)) ∧ jfI V a0 5 22 q2 ∧ jrr9 R MT2 QU2 q2.toInt (jtas x1.toInt (jdir x1.toInt).toNat x2.toInt.toNat (jtur x1.toInt).toNat x3.toInt.toNat L (x2.toInt.toNat * (jtur x1.toInt).toNat))) ∧ jkc 5 [0, 23, 24] V0 V) := by
                      intro  t0k76     hk76_0
                      refine Jz_iast (r := ((-2147483648), 2147483647)) jEq.rf jEq.rf hW id dX7_turnsAll_76 hAF17n34 rfl rfl (by omega) (by omega) (j_rng _).1 (j_rng _).2 (fun V76 G76 hW hx76 hA76 hp76 ho76 => ?_)
                      obtain ⟨hN76, hv76⟩ := WT_rngI (r := ((-2147483648), 2147483647)) hW id rfl hA76
                      clear hN76
                      have he := he.trans (hx76.sub (jsub_of rfl))
                      have hkp := hkp.trans (jkc.of hx76 (jnot_of rfl))
                      have ha0 := ha0.mono hx76.1
                      have hb_rb := hb_rb.mono hx76.1
                      have hb_qq := hb_qq.mono hx76.1
                      have hb25p4 := hb25p4.mono hx76.1
                      have hOfs25a0 := hx76.2 _ _ hOfs25a0 (jnot_of rfl)
                      have hKfs25a0 := hKfs25a0.mono hx76.1
                      have hAF42n12 := hx76.2 _ _ hAF42n12 (jnot_of rfl)
                      have hAF29n12 := hx76.2 _ _ hAF29n12 (jnot_of rfl)
                      refine J_iload_n dX7_turnsAll_77 rfl ?_
                      refine J_callS1 moX7_directions jw_ml_X7_133 jw_st_X7_directions dX7_turnsAll_78 (w_X7_directions (d - 1) _ x1 (by omega)   ) (by omega) (Nat.zero_le _) (Nat.zero_le _) (Nat.le_of_ble_eq_true rfl) (fun r78 V78 h78 => ?_)
                      obtain ⟨⟨y78, rfl, hl78, hh78, hP78_0⟩, hE78⟩ := h78
                      have hE78 := hE78.symm
                      subst hE78
                      have hz78 : jEq y78.toInt (jdir (x1.toInt)) := hP78_0
                      simp only [hP78_0] at hl78 hh78
                      clear hP78_0
                      refine J_iload dX7_turnsAll_81 rfl ?_
                      refine Jz_imul hz78 jEq.rf dX7_turnsAll_83 (by omega) (by omega) (fun y83 he83 => ?_)
                      refine J_aload_n dX7_turnsAll_84 rfl ?_
                      refine J_get jf_X7_19 dX7_turnsAll_85 hOfs25a0 hFfs25a0_4 ?_
                      refine J_iload dX7_turnsAll_88 rfl ?_
                      refine Jz_iald (r := ((-2147483648), 2147483647)) jEq.rf dX7_turnsAll_90 hA76 rfl hv76 (by omega) (by omega) (fun y90 hf90 hl90 hh90 => ?_)
                      dsimp only at hl90 hh90
                      clear hl90 hh90
                      have he90 : jEq y90.toInt (t0k76.toInt) := by rw [← hf90, hp76]; exact jEq.rf
                      refine Jz_iadd he83 he90 dX7_turnsAll_91 (by omega) (by omega) (fun y91 he91 => ?_)
                      refine J_istore dX7_turnsAll_92 rfl (by decide) ?_
                      refine Jz_iinc 1 dX7_turnsAll_94 rfl rfl (by decide) jEq.rf (by decide) (by omega) (by omega) (fun y94 he94 => ?_)
                      refine J_goto (tgt := 34) dX7_turnsAll_97 (by decide) ?_
                      refine J.mask [true, true, true, true, true, true, true, true] ?_
                      exact ih34 _ y91 y94 G76 hW he ha0 hb_rb hb_qq hb25p4 hkp hOfs25a0 hKfs25a0 hA76 hAF42n12 hAF29n12 (by (try simp only [he91.eq, he94.eq, true_and, and_true]) <;> omega) (by rw [he91.eq, he94.eq, show (i7n34.toInt + 1).toNat = i7n34.toInt.toNat + 1 by omega, hk76_0, Int.mul_comm, hto]; exact jnm_next hDn htI.1) (fun i hi => by rw [he94.eq] at hi; by_cases c : (i : Int) = i7n34.toInt; (have e : i = i7n34.toInt.toNat := by omega); subst e; rw [hp76]; exact hk76_0; rw [ho76 i (by omega)]; exact hrA i (by omega)) (fun i h1 h2 => by rw [he94.eq] at h1; rw [ho76 i (by omega)]; exact hrB i (by omega) h2) (by (try simp only [he91.eq, he94.eq, true_and, and_true]) <;> omega)
                    refine Jz_icmp_ge (tgt := 63) jEq.rf jEq.rf dX7_turnsAll_50 (by decide) (fun c50 => ?_) (fun c50 => ?_)
                    · refine J_iload_n dX7_turnsAll_63 rfl ?_
                      refine J_iload dX7_turnsAll_64 rfl ?_
                      refine J_aload_n dX7_turnsAll_66 rfl ?_
                      refine J_get jf_X7_19 dX7_turnsAll_67 hOfs25a0 hFfs25a0_4 ?_
                      refine J_iload dX7_turnsAll_70 rfl ?_
                      refine Jz_iald (r := ((-2147483648), 2147483647)) jEq.rf dX7_turnsAll_72 hAF17n34 rfl hvF17n34 (by omega) (by omega) (fun y72 hf72 hl72 hh72 => ?_)
                      dsimp only at hl72 hh72
                      clear hl72 hh72
                      refine J_callS3 moX7_turned jw_ml_X7_146 jw_st_X7_turned dX7_turnsAll_73 (w_X7_turned_z (d - 1) _ x1 i5n12 y72 (by omega)   (by omega) (by omega) (by omega) (by omega) (by rw [← hf72, hdI]; omega) (by rw [← hf72, hdI]; omega)) (by omega) (Nat.zero_le _) (Nat.zero_le _) (Nat.le_of_ble_eq_true rfl) (fun r73 V73 h73 => ?_)
                      obtain ⟨⟨y73, rfl, hl73, hh73, hP73_0⟩, hE73⟩ := h73
                      have hE73 := hE73.symm
                      subst hE73
                      clear hl73 hh73
                      have hz73 : jEq y73.toInt (jtn (x1.toInt) (i5n12.toInt) (y72.toInt)) := hP73_0
                      clear hP73_0
                      exact K76  y73  (by unfold jTp; rw [if_neg (by omega), ← hdI, hf72]; exact hz73.eq)
                    · refine J_aload_n dX7_turnsAll_53 rfl ?_
                      refine J_get jf_X7_19 dX7_turnsAll_54 hOfs25a0 hFfs25a0_4 ?_
                      refine J_iload dX7_turnsAll_57 rfl ?_
                      refine Jz_iald (r := ((-2147483648), 2147483647)) jEq.rf dX7_turnsAll_59 hAF17n34 rfl hvF17n34 (by omega) (by omega) (fun y59 hf59 hl59 hh59 => ?_)
                      dsimp only at hl59 hh59
                      clear hl59 hh59
                      refine J_goto (tgt := 76) dX7_turnsAll_60 (by decide) ?_
                      exact K76  y59  (by unfold jTp; rw [if_pos (by omega), ← hdI, hf59])
              refine J.mask [true, true, true, true, true, true, true, true] ?_
              exact L34 _ _ y28 y31 F25x hW he ha0 hb_rb hb_qq hb25p4 hkp hOfs25a0 hKfs25a0 hA25x hAF42n12 hAF29n12 (by (try simp only [he28.eq, he31.eq, true_and, and_true]) <;> omega) (by rw [he28.eq, he31.eq]; rfl) (fun i hi => by rw [he31.eq] at hi; omega) (fun i _ hi => hc25 i hi) (Nat.lt_succ_self _)
        refine J.mask [true, true, true, true, true, true, false, false] ?_
        exact L12 _ _ y9 gs3a0 g22n3 F42n3 F29n3 hW he ha0 hb_rb hb_qq hkp hOgs3a0 hFgs3a0_22 hFgs3a0_20 hFgs3a0_21 hAF42n3 hAF29n3 (by (try simp only [he9.eq, true_and, and_true]) <;> omega) (by rw [he9.eq, show (0 : Int).toNat = 0 from rfl, Nat.add_zero]; exact hq4) (Nat.lt_succ_self _)
  refine J.mask [true, true, true, true, true, false, false, false] ?_
  exact L3 _ _ y0 fs_a0 qd MT QU hW he ha0 hb_rb hb_qq hkp hO_a0 hF_qd hF_rb hF_qq ha_MT ha_QU (by (try simp only [he0.eq, true_and, and_true]) <;> omega) (by rw [he0.eq, show (0 : Int).toNat = 0 from rfl, Nat.zero_mul]; exact hp7) (Nat.lt_succ_self _)
set_option maxRecDepth 100000 in
set_option maxHeartbeats 8000000 in
theorem w_X7_reach_z {tS : jTS} (d : Nat) (V0 : jH) (a0 : Nat) (x1 : Int32) (x2 : Int32) (hd : 3 ≤ d) (hW : WT V0) (ha0 : jis V0 (.inr 5) a0) (hct : jRM V0 a0) (hrf : jRF V0 a0) : jTot tS mX7_reach d [.ref a0, .int x1, .int x2] V0 0 0 (fun r V => (jPost [.inr 5, .inl 17, .inl 18, .inl 19, .inl 20, .inl 42, .inl 29, .inl 28] V0 (fun r _ => ∃ y : Int32, r = some (.int y) ∧ ((-2147483648) ≤ y.toInt) ∧ (y.toInt ≤ 2147483647) ∧ (((0 ≤ x1.toInt ∧ x1.toInt ≤ 3 ∧ ¬ x1.toInt = 2 ∧ 1 ≤ x2.toInt ∧ x2.toInt ≤ 6) ∧ ((10000 < (((jdir x1.toInt).toNat ^ x2.toInt.toNat : Nat) : Int) ∧ y.toInt = -5) ∨ ((((jdir x1.toInt).toNat ^ x2.toInt.toNat : Nat) : Int) ≤ 10000 ∧ y.toInt = ((jre x1.toInt x2.toInt.toNat : Nat) : Int)))) ∨ (¬ (0 ≤ x1.toInt ∧ x1.toInt ≤ 3 ∧ ¬ x1.toInt = 2 ∧ 1 ≤ x2.toInt ∧ x2.toInt ≤ 6) ∧ y.toInt = -2)))) r V ∧ jRM V a0 ∧ jRF V a0 ∧ jkc 5 [0, 23, 24] V0 V) := by
  refine jTot.of_J [some (.ref a0), some (.int x1), some (.int x2), none, none] moX7_reach (Nat.le_of_ble_eq_true rfl) rfl ?_
  have hrx1 := j_rng x1
  have hrx2 := j_rng x2
  have he : jeff [.inr 5, .inl 17, .inl 18, .inl 19, .inl 20, .inl 42, .inl 29, .inl 28] V0 V0 := jeff.refl _ _
  have hkp : jkc 5 [0, 23, 24] V0 V0 := jkc.rf
  have hkm0 : True := trivial
  obtain ⟨fd, rd, FD, RD, f1, f2, d1, d2, w1, w2⟩ := id hrf
  obtain ⟨ms, hM, g18⟩ := id f1
  have g19 := f2.get hM
  have hKm : jokO V0 (jFs 5) ms := hW _ _ id hM
  have hbfd : jis V0 (.inl 27) fd := ⟨_, d1, rfl⟩
  have hbrd : jis V0 (.inl 28) rd := ⟨_, d2, rfl⟩
  obtain ⟨hNRD, hvRD⟩ := WT_rngI (r := (-2147483648, 2147483647)) hW id rfl d2
  clear hNRD
  refine J_iload_n dX7_reach_0 rfl ?_
  refine J_callS1 moX7_isGround jw_ml_X7_184 jw_st_X7_isGround dX7_reach_1 (w_X7_isGround_y (d - 1) _ x1 (by omega)   ) (by omega) (Nat.zero_le _) (Nat.zero_le _) (Nat.le_of_ble_eq_true rfl) (fun r1 V1 h1 => ?_)
  obtain ⟨⟨y1, rfl, hl1, hh1, hP1_0⟩, hE1⟩ := h1
  have hE1 := hE1.symm
  subst hE1
  refine Jz_if_eq (tgt := 22) jEq.rf dX7_reach_4 (by decide) (fun c4 => ?_) (fun c4 => ?_)
  · refine Jz_bipush (-2) dX7_reach_22 (by decide) (fun y22 he22 => ?_)
    exact J_ret (r := some (.int _)) dX7_reach_24 ⟨rfl, _, rfl, rfl⟩ (⟨⟨hW, he, ⟨_, rfl, (j_rng _).1, (j_rng _).2, (Or.inr ⟨by omega, he22.eq⟩)⟩⟩, hct, hrf, hkp⟩)
  · refine J_iload_n dX7_reach_7 rfl ?_
    refine Jz_iconst 2 dX7_reach_8 (by decide) (fun y8 he8 => ?_)
    refine Jz_icmp_eq (tgt := 22) jEq.rf he8 dX7_reach_9 (by decide) (fun c9 => ?_) (fun c9 => ?_)
    · refine Jz_bipush (-2) dX7_reach_22 (by decide) (fun y22 he22 => ?_)
      exact J_ret (r := some (.int _)) dX7_reach_24 ⟨rfl, _, rfl, rfl⟩ (⟨⟨hW, he, ⟨_, rfl, (j_rng _).1, (j_rng _).2, (Or.inr ⟨by omega, he22.eq⟩)⟩⟩, hct, hrf, hkp⟩)
    · refine J_iload_n dX7_reach_12 rfl ?_
      refine Jz_iconst 1 dX7_reach_13 (by decide) (fun y13 he13 => ?_)
      refine Jz_bipush 6 dX7_reach_14 (by decide) (fun y14 he14 => ?_)
      refine J_callS3 moX7_in jw_ml_X7_105 jw_st_X7_in dX7_reach_16 (w_X7_in_y (d - 1) _ x2 y13 y14 (by omega)   ) (by omega) (Nat.zero_le _) (Nat.zero_le _) (Nat.le_of_ble_eq_true rfl) (fun r16 V16 h16 => ?_)
      obtain ⟨⟨y16, rfl, hl16, hh16, hP16_0⟩, hE16⟩ := h16
      have hE16 := hE16.symm
      subst hE16
      try simp only [he13.eq, he14.eq] at hP16_0
      refine Jz_if_ne (tgt := 25) jEq.rf dX7_reach_19 (by decide) (fun c19 => ?_) (fun c19 => ?_)
      · refine J_iload_n dX7_reach_25 rfl ?_
        have hjb : 3 ≤ jdir x1.toInt ∧ jdir x1.toInt ≤ 6 := by have q := jdir_cases x1.toInt; omega
        have hDn : (((jdir x1.toInt).toNat : Nat) : Int) = jdir x1.toInt := Int.toNat_of_nonneg (by omega)
        have hD0 : 0 < (jdir x1.toInt).toNat := by omega
        have hix7 : (7 * x1.toInt + x2.toInt).toNat = 7 * x1.toInt.toNat + x2.toInt.toNat := by omega
        have hig : ((x1.toInt.toNat : Nat) : Int) = x1.toInt := Int.toNat_of_nonneg (by omega)
        refine J_callS1 moX7_directions jw_ml_X7_133 jw_st_X7_directions dX7_reach_26 (w_X7_directions (d - 1) _ x1 (by omega)   ) (by omega) (Nat.zero_le _) (Nat.zero_le _) (Nat.le_of_ble_eq_true rfl) (fun r26 V26 h26 => ?_)
        obtain ⟨⟨y26, rfl, hl26, hh26, hP26_0⟩, hE26⟩ := h26
        have hE26 := hE26.symm
        subst hE26
        have hz26 : jEq y26.toInt (jdir (x1.toInt)) := hP26_0
        simp only [hP26_0] at hl26 hh26
        clear hP26_0
        refine J_iload_n dX7_reach_29 rfl ?_
        refine J_callS2 moX7_power jw_ml_X7_195 jw_st_X7_power dX7_reach_30 (w_X7_power_z (d - 1) _ y26 x2 (by omega)   (by rw [hz26.eq]; omega) (by rw [hz26.eq]; omega) (by omega) (by omega)) (by omega) (Nat.zero_le _) (Nat.zero_le _) (Nat.le_of_ble_eq_true rfl) (fun r30 V30 h30 => ?_)
        obtain ⟨⟨y30, rfl, hl30, hh30, hP30_0⟩, hE30⟩ := h30
        have hE30 := hE30.symm
        subst hE30
        clear hl30 hh30
        try simp only [hz26.eq] at hP30_0
        refine J_istore_n dX7_reach_33 rfl (by decide) ?_
        refine J_iload_n dX7_reach_34 rfl ?_
        refine Jz_sipush 10000 dX7_reach_35 (by decide) (fun y35 he35 => ?_)
        refine Jz_icmp_le (tgt := 44) jEq.rf he35 dX7_reach_38 (by decide) (fun c38 => ?_) (fun c38 => ?_)
        · refine J_aload_n dX7_reach_44 rfl ?_
          refine J_get jf_X7_64 dX7_reach_45 hM g19 ?_
          refine Jz_bipush 7 dX7_reach_48 (by decide) (fun y48 he48 => ?_)
          refine J_iload_n dX7_reach_50 rfl ?_
          refine Jz_imul he48 jEq.rf dX7_reach_51 (by omega) (by omega) (fun y51 he51 => ?_)
          refine J_iload_n dX7_reach_52 rfl ?_
          refine Jz_iadd he51 jEq.rf dX7_reach_53 (by omega) (by omega) (fun y53 he53 => ?_)
          refine Jz_iald (r := ((-2147483648), 2147483647)) he53 dX7_reach_54 d2 rfl hvRD (by omega) (by omega) (fun y54 hf54 hl54 hh54 => ?_)
          dsimp only at hl54 hh54
          clear hl54 hh54
          have e54 : (RD (7 * x1.toInt + x2.toInt).toNat).toInt = y54.toInt := by rw [hf54]
          refine Jz_if_ne (tgt := 137) jEq.rf dX7_reach_55 (by decide) (fun c55 => ?_) (fun c55 => ?_)
          · refine J_aload_n dX7_reach_137 rfl ?_
            refine J_get jf_X7_64 dX7_reach_138 hM g19 ?_
            refine Jz_bipush 7 dX7_reach_141 (by decide) (fun y141 he141 => ?_)
            refine J_iload_n dX7_reach_143 rfl ?_
            refine Jz_imul he141 jEq.rf dX7_reach_144 (by omega) (by omega) (fun y144 he144 => ?_)
            refine J_iload_n dX7_reach_145 rfl ?_
            refine Jz_iadd he144 jEq.rf dX7_reach_146 (by omega) (by omega) (fun y146 he146 => ?_)
            refine Jz_iald (r := ((-2147483648), 2147483647)) he146 dX7_reach_147 d2 rfl hvRD (by omega) (by omega) (fun y147 hf147 hl147 hh147 => ?_)
            dsimp only at hl147 hh147
            clear hl147 hh147
            have he147 : jEq y147.toInt (y54.toInt) := by rw [← hf147, hf54]; exact jEq.rf
            exact J_ret (r := some (.int _)) dX7_reach_148 ⟨rfl, _, rfl, rfl⟩ (⟨⟨hW, he, ⟨_, rfl, (j_rng _).1, (j_rng _).2, (Or.inl ⟨by omega, Or.inr ⟨by omega, by rw [he147.eq]; have q := w2 x1.toInt.toNat x2.toInt.toNat (by omega) (by omega); rw [← hix7, e54, hig] at q; exact q.elim (fun w => absurd w c55) id⟩⟩)⟩⟩, hct, ⟨fd, rd, FD, RD, f1.mono he.1, f2.mono he.1, d1, d2, w1, w2⟩, hkp⟩)
          · refine Jz_iconst 0 dX7_reach_58 (by decide) (fun y58 he58 => ?_)
            refine J_istore dX7_reach_59 rfl (by decide) ?_
            obtain ⟨w61t20, hF61t20, b61t20, rfl, hb61t20⟩ := hKm.2 20 (.inr (some (.inl 42))) rfl
            obtain ⟨n61tb61t20, f61tb61t20, hA61tb61t20, hN61tb61t20, hM61tb61t20, hv61tb61t20⟩ := WT_arrI (r := (0, 1)) hW id rfl hb61t20
            obtain rfl := hM61tb61t20 10000 rfl
            clear hN61tb61t20 hM61tb61t20
            have L61 : ∀ (N : Nat) (V : jH) (i4n61 : Int32) (F42n61 : Nat → Int32), WT V → jeff [.inr 5, .inl 17, .inl 18, .inl 19, .inl 20, .inl 42, .inl 29, .inl 28] V0 V → (jis V (.inr 5) a0) → (jis V (.inl 27) fd) → (jis V (.inl 28) rd) → (jis V (.inl 42) b61t20) → (jkc 5 [0, 23, 24] V0 V) → (jRM V a0) → (V a0 = some (.inr (5, ms))) → (jokO V (jFs 5) ms) → (V b61t20 = some (.inl (42, 10000, .inl F42n61))) → (V rd = some (.inl (28, 28, .inl RD))) → (V fd = some (.inl (27, 32, .inl FD))) → (0 ≤ i4n61.toInt ∧ i4n61.toInt ≤ (((jdir x1.toInt).toNat ^ x2.toInt.toNat : Nat) : Int)) → (∀ k : Nat, (k : Int) < i4n61.toInt → (F42n61 k).toInt = 0) → (10001 - i4n61.toInt).toNat < N → J tS mX7_reach d 61 [some (.ref a0), some (.int x1), some (.int x2), some (.int y30), some (.int i4n61)] [] V 0 0 (fun r V => (jPost [.inr 5, .inl 17, .inl 18, .inl 19, .inl 20, .inl 42, .inl 29, .inl 28] V0 (fun r _ => ∃ y : Int32, r = some (.int y) ∧ ((-2147483648) ≤ y.toInt) ∧ (y.toInt ≤ 2147483647) ∧ (((0 ≤ x1.toInt ∧ x1.toInt ≤ 3 ∧ ¬ x1.toInt = 2 ∧ 1 ≤ x2.toInt ∧ x2.toInt ≤ 6) ∧ ((10000 < (((jdir x1.toInt).toNat ^ x2.toInt.toNat : Nat) : Int) ∧ y.toInt = -5) ∨ ((((jdir x1.toInt).toNat ^ x2.toInt.toNat : Nat) : Int) ≤ 10000 ∧ y.toInt = ((jre x1.toInt x2.toInt.toNat : Nat) : Int)))) ∨ (¬ (0 ≤ x1.toInt ∧ x1.toInt ≤ 3 ∧ ¬ x1.toInt = 2 ∧ 1 ≤ x2.toInt ∧ x2.toInt ≤ 6) ∧ y.toInt = -2)))) r V ∧ jRM V a0 ∧ jRF V a0 ∧ jkc 5 [0, 23, 24] V0 V) := by
              intro N
              induction N with
              | zero => intro V i4n61 F42n61 hW he ha0 hbfd hbrd hb61t20 hkp hct hM hKm hAF42n61 d2 d1 hi4 hz hm; exact absurd hm (Nat.not_lt_zero _)
              | succ N ih =>
                intro V i4n61 F42n61 hW he ha0 hbfd hbrd hb61t20 hkp hct hM hKm hAF42n61 d2 d1 hi4 hz hm
                have ih61 := ih
                have hri4 := j_rng i4n61
                obtain ⟨hNF42n61, hvF42n61⟩ := WT_rngI (r := (0, 1)) hW id rfl hAF42n61
                clear hNF42n61
                refine J_iload dX7_reach_61 rfl ?_
                refine J_iload_n dX7_reach_63 rfl ?_
                refine Jz_icmp_ge (tgt := 81) jEq.rf jEq.rf dX7_reach_64 (by decide) (fun c64 => ?_) (fun c64 => ?_)
                · refine J_aload_n dX7_reach_81 rfl ?_
                  refine Jz_iconst 0 dX7_reach_82 (by decide) (fun y82 he82 => ?_)
                  refine Jz_putI hM hW id rfl jf_X7_205 jt_X7_22 he82 dX7_reach_83 (by omega) (by omega) (fun _ _ => ⟨rfl, rfl⟩) (fun V83 fs83 hW hx83 hO83 hS83 hT83 hB83 => ?_)
                  have hK83 : jokO _ (jFs 5) fs83 := hW _ _ id hO83
                  have hF83_18 := (hT83 18 (by decide)).trans g18
                  have hF83_19 := (hT83 19 (by decide)).trans g19
                  have hF83_20 := (hT83 20 (by decide)).trans hF61t20
                  have he := he.trans (hx83.sub (jsub_of rfl))
                  have hkp := hkp.trans (jkc.put hM hO83 hT83 hB83 (by decide))
                  have hct := hct.keep hx83 (jdis_of rfl)
                  have ha0 := ha0.mono hx83.1
                  have hbfd := hbfd.mono hx83.1
                  have hbrd := hbrd.mono hx83.1
                  have hb61t20 := hb61t20.mono hx83.1
                  have hAF42n61 := hx83.2 _ _ hAF42n61 (jnot_of rfl)
                  have d2 := hx83.2 _ _ d2 (jnot_of rfl)
                  have d1 := hx83.2 _ _ d1 (jnot_of rfl)
                  refine J_aload_n dX7_reach_86 rfl ?_
                  refine Jz_iconst 0 dX7_reach_87 (by decide) (fun y87 he87 => ?_)
                  obtain ⟨w88p21, hF88p21, b88p21, rfl, hb88p21⟩ := hK83.2 21 (.inr (some (.inl 29))) rfl
                  obtain ⟨n88q29, f88q29, hA88q29, hN88q29, hM88q29, hv88q29⟩ := WT_arrI (r := (0, 9999)) hW id rfl hb88p21
                  obtain rfl := hM88q29 10000 rfl
                  clear hN88q29 hM88q29
                  refine Jw_callV1 (q9 := (RX7, TX7, 34)) moX7_meets jw_ml_X7_208 jw_im_X7_meets jw_se_X7_meets ha0 rfl rfl dX7_reach_88 (w_X7_meets_z (d - 1) _ a0 y87 y82 b61t20 b88p21 ((jdir x1.toInt).toNat ^ x2.toInt.toNat) [] (jwlk x1.toInt (jdir x1.toInt).toNat x2.toInt.toNat) F42n61 f88q29 (by omega) hW  ha0 ⟨_, hO83, hS83⟩ ⟨_, hO83, hF83_20⟩ ⟨_, hO83, hF88p21⟩ hAF42n61 hA88q29 (by rw [he87.eq]; omega) (by rw [he87.eq]; have q := jpp hD0 x2.toInt.toNat; omega) (by omega) (by rw [he82.eq]; exact jrr9.init (fun v hv => hz v (by omega))) (by rw [he87.eq]; exact jwlk_zero _ _ _)) (by omega) (Nat.zero_le _) (Nat.zero_le _) (Nat.le_of_ble_eq_true rfl) (fun r88 V88 h88 => ?_)
                  obtain ⟨h88, hX88_0, hX88_1⟩ := h88
                  obtain ⟨hW, hx88, hr88⟩ := h88
                  have he := he.trans (hx88.sub (jsub_of rfl))
                  have hkp := hkp.trans hX88_1
                  have hct := hct.keep hx88 (jdis_of rfl)
                  have ha0 := ha0.mono hx88.1
                  have hbfd := hbfd.mono hx88.1
                  have hbrd := hbrd.mono hx88.1
                  have hb61t20 := hb61t20.mono hx88.1
                  have hb88p21 := hb88p21.mono hx88.1
                  obtain ⟨fs88a0, hOfs88a0, hRfs88a0⟩ := hx88.1.keep hO83
                  have hKfs88a0 : jokO _ (jFs 5) fs88a0 := hW _ _ id hOfs88a0
                  have hFfs88a0_18 := hRfs88a0 _ _ hF83_18
                  have hFfs88a0_19 := hRfs88a0 _ _ hF83_19
                  have hFfs88a0_20 := hRfs88a0 _ _ hF83_20
                  have hFfs88a0_21 := hRfs88a0 _ _ hF88p21
                  have d2 := hx88.2 _ _ d2 (jnot_of rfl)
                  have d1 := hx88.2 _ _ d1 (jnot_of rfl)
                  cases hr88
                  obtain ⟨M88, Q88, q88, hMa88, hQa88, hqf88, hrr88⟩ := hX88_0
                  have hrr1 : jrr9 ((jdir x1.toInt).toNat ^ x2.toInt.toNat) M88 Q88 q88.toInt [0] := by
                    have q := hrr88
                    rw [he87.eq, show (0 : Int).toNat = 0 from rfl, jadd_yes List.not_mem_nil (jwlk_zero _ _ _)] at q
                    exact q
                  have hFv8822 := hqf88.get hOfs88a0
                  obtain ⟨hN_M88, hv_M88⟩ := WT_rngI (r := (0, 1)) hW id rfl hMa88
                  clear hN_M88
                  obtain ⟨hN_Q88, hv_Q88⟩ := WT_rngI (r := (0, 9999)) hW id rfl hQa88
                  clear hN_Q88
                  refine Jz_iconst 0 dX7_reach_91 (by decide) (fun y91 he91 => ?_)
                  refine J_istore dX7_reach_92 rfl (by decide) ?_
                  have L94 : ∀ (N : Nat) (V : jH) (i4n94 : Int32) (gs94a0 : List Value) (g22n94 : Int32) (F42n94 : Nat → Int32) (F29n94 : Nat → Int32), WT V → jeff [.inr 5, .inl 17, .inl 18, .inl 19, .inl 20, .inl 42, .inl 29, .inl 28] V0 V → (jis V (.inr 5) a0) → (jis V (.inl 27) fd) → (jis V (.inl 28) rd) → (jis V (.inl 42) b61t20) → (jis V (.inl 29) b88p21) → (jkc 5 [0, 23, 24] V0 V) → (jRM V a0) → (V a0 = some (.inr (5, gs94a0))) → (gs94a0[18]? = some (.ref fd)) → (gs94a0[19]? = some (.ref rd)) → (gs94a0[20]? = some (.ref b61t20)) → (gs94a0[21]? = some (.ref b88p21)) → (gs94a0[22]? = some (.int g22n94)) → (V b61t20 = some (.inl (42, 10000, .inl F42n94))) → (V b88p21 = some (.inl (29, 10000, .inl F29n94))) → (V rd = some (.inl (28, 28, .inl RD))) → (V fd = some (.inl (27, 32, .inl FD))) → (0 ≤ i4n94.toInt ∧ i4n94.toInt ≤ (((jdir x1.toInt).toNat ^ x2.toInt.toNat : Nat) : Int)) → (jbr x1.toInt (jdir x1.toInt).toNat x2.toInt.toNat (jtur x1.toInt).toNat ((jdir x1.toInt).toNat ^ x2.toInt.toNat) F42n94 F29n94 g22n94.toInt i4n94.toInt.toNat) → (20000 - i4n94.toInt).toNat < N → J tS mX7_reach d 94 [some (.ref a0), some (.int x1), some (.int x2), some (.int y30), some (.int i4n94)] [] V 0 0 (fun r V => (jPost [.inr 5, .inl 17, .inl 18, .inl 19, .inl 20, .inl 42, .inl 29, .inl 28] V0 (fun r _ => ∃ y : Int32, r = some (.int y) ∧ ((-2147483648) ≤ y.toInt) ∧ (y.toInt ≤ 2147483647) ∧ (((0 ≤ x1.toInt ∧ x1.toInt ≤ 3 ∧ ¬ x1.toInt = 2 ∧ 1 ≤ x2.toInt ∧ x2.toInt ≤ 6) ∧ ((10000 < (((jdir x1.toInt).toNat ^ x2.toInt.toNat : Nat) : Int) ∧ y.toInt = -5) ∨ ((((jdir x1.toInt).toNat ^ x2.toInt.toNat : Nat) : Int) ≤ 10000 ∧ y.toInt = ((jre x1.toInt x2.toInt.toNat : Nat) : Int)))) ∨ (¬ (0 ≤ x1.toInt ∧ x1.toInt ≤ 3 ∧ ¬ x1.toInt = 2 ∧ 1 ≤ x2.toInt ∧ x2.toInt ≤ 6) ∧ y.toInt = -2)))) r V ∧ jRM V a0 ∧ jRF V a0 ∧ jkc 5 [0, 23, 24] V0 V) := by
                    intro N
                    induction N with
                    | zero => intro V i4n94 gs94a0 g22n94 F42n94 F29n94 hW he ha0 hbfd hbrd hb61t20 hb88p21 hkp hct hOgs94a0 hFgs94a0_18 hFgs94a0_19 hFgs94a0_20 hFgs94a0_21 hFgs94a0_22 hAF42n94 hAF29n94 d2 d1 hi4 hbr hm; exact absurd hm (Nat.not_lt_zero _)
                    | succ N ih =>
                      intro V i4n94 gs94a0 g22n94 F42n94 F29n94 hW he ha0 hbfd hbrd hb61t20 hb88p21 hkp hct hOgs94a0 hFgs94a0_18 hFgs94a0_19 hFgs94a0_20 hFgs94a0_21 hFgs94a0_22 hAF42n94 hAF29n94 d2 d1 hi4 hbr hm
                      have ih94 := ih
                      have hri4 := j_rng i4n94
                      have hKgs94a0 : jokO V (jFs 5) gs94a0 := hW _ _ id hOgs94a0
                      have hrgg22n94 : (-2147483648) ≤ g22n94.toInt ∧ g22n94.toInt ≤ 2147483647 := jok_rngI hKgs94a0 rfl hFgs94a0_22
                      obtain ⟨hNF42n94, hvF42n94⟩ := WT_rngI (r := (0, 1)) hW id rfl hAF42n94
                      clear hNF42n94
                      obtain ⟨hNF29n94, hvF29n94⟩ := WT_rngI (r := (0, 9999)) hW id rfl hAF29n94
                      clear hNF29n94
                      obtain ⟨L, hrr, hjb9⟩ := hbr
                      have hln := hrr.len
                      refine J_iload dX7_reach_94 rfl ?_
                      refine J_aload_n dX7_reach_96 rfl ?_
                      refine J_get jf_X7_205 dX7_reach_97 hOgs94a0 hFgs94a0_22 ?_
                      refine Jz_icmp_ge (tgt := 122) jEq.rf jEq.rf dX7_reach_100 (by decide) (fun c100 => ?_) (fun c100 => ?_)
                      · have hval : g22n94.toInt = ((jre x1.toInt x2.toInt.toNat : Nat) : Int) := by
                          rw [hln.1]
                          have q := hjb9
                          rw [jbf_done (q := L) (h := i4n94.toInt.toNat) (by omega)] at q
                          rw [q]
                          rfl
                        refine J_aload_n dX7_reach_122 rfl ?_
                        refine J_get jf_X7_64 dX7_reach_123 hOgs94a0 hFgs94a0_19 ?_
                        refine Jz_bipush 7 dX7_reach_126 (by decide) (fun y126 he126 => ?_)
                        refine J_iload_n dX7_reach_128 rfl ?_
                        refine Jz_imul he126 jEq.rf dX7_reach_129 (by omega) (by omega) (fun y129 he129 => ?_)
                        refine J_iload_n dX7_reach_130 rfl ?_
                        refine Jz_iadd he129 jEq.rf dX7_reach_131 (by omega) (by omega) (fun y131 he131 => ?_)
                        refine J_aload_n dX7_reach_132 rfl ?_
                        refine J_get jf_X7_205 dX7_reach_133 hOgs94a0 hFgs94a0_22 ?_
                        refine Jz_iast (r := ((-2147483648), 2147483647)) he131 jEq.rf hW id dX7_reach_136 d2 rfl rfl (by omega) (by omega) (j_rng _).1 (j_rng _).2 (fun V136 G136 hW hx136 hA136 hp136 ho136 => ?_)
                        obtain ⟨hN136, hv136⟩ := WT_rngI (r := ((-2147483648), 2147483647)) hW id rfl hA136
                        clear hN136
                        have he := he.trans (hx136.sub (jsub_of rfl))
                        have hkp := hkp.trans (jkc.of hx136 (jnot_of rfl))
                        have hct := hct.keep hx136 (jdis_of rfl)
                        have ha0 := ha0.mono hx136.1
                        have hbfd := hbfd.mono hx136.1
                        have hbrd := hbrd.mono hx136.1
                        have hb61t20 := hb61t20.mono hx136.1
                        have hb88p21 := hb88p21.mono hx136.1
                        have hOgs94a0 := hx136.2 _ _ hOgs94a0 (jnot_of rfl)
                        have hKgs94a0 := hKgs94a0.mono hx136.1
                        have hAF42n94 := hx136.2 _ _ hAF42n94 (jnot_of rfl)
                        have hAF29n94 := hx136.2 _ _ hAF29n94 (jnot_of rfl)
                        have d1 := hx136.2 _ _ d1 (jnot_of rfl)
                        refine J_aload_n dX7_reach_137 rfl ?_
                        refine J_get jf_X7_64 dX7_reach_138 hOgs94a0 hFgs94a0_19 ?_
                        refine Jz_bipush 7 dX7_reach_141 (by decide) (fun y141 he141 => ?_)
                        refine J_iload_n dX7_reach_143 rfl ?_
                        refine Jz_imul he141 jEq.rf dX7_reach_144 (by omega) (by omega) (fun y144 he144 => ?_)
                        refine J_iload_n dX7_reach_145 rfl ?_
                        refine Jz_iadd he144 jEq.rf dX7_reach_146 (by omega) (by omega) (fun y146 he146 => ?_)
                        refine Jz_iald (r := ((-2147483648), 2147483647)) he146 dX7_reach_147 hA136 rfl hv136 (by omega) (by omega) (fun y147 hf147 hl147 hh147 => ?_)
                        dsimp only at hl147 hh147
                        clear hl147 hh147
                        have he147 : jEq y147.toInt (g22n94.toInt) := by rw [← hf147, hp136]; exact jEq.rf
                        exact J_ret (r := some (.int _)) dX7_reach_148 ⟨rfl, _, rfl, rfl⟩ (⟨⟨hW, he, ⟨_, rfl, (j_rng _).1, (j_rng _).2, (Or.inl ⟨by omega, Or.inr ⟨by omega, by rw [he147.eq]; exact hval⟩⟩)⟩⟩, hct, ⟨fd, rd, FD, G136, f1.mono he.1, f2.mono he.1, d1, hA136, w1, jrd_set hix7 (by omega) w2 (by rw [hig, hp136]; exact hval) ho136⟩, hkp⟩)
                      · refine J_aload_n dX7_reach_103 rfl ?_
                        refine J_iload_n dX7_reach_104 rfl ?_
                        refine J_iload_n dX7_reach_105 rfl ?_
                        refine J_aload_n dX7_reach_106 rfl ?_
                        refine J_get jf_X7_70 dX7_reach_107 hOgs94a0 hFgs94a0_21 ?_
                        refine J_iload dX7_reach_110 rfl ?_
                        refine Jz_iald (r := (0, 9999)) jEq.rf dX7_reach_112 hAF29n94 rfl hvF29n94 (by omega) (by omega) (fun y112 hf112 hl112 hh112 => ?_)
                        dsimp only at hl112 hh112
                        have hv112 : y112.toInt = ((jnth L i4n94.toInt.toNat : Nat) : Int) := by rw [← hf112]; exact hrr.2.1 _ (by omega)
                        refine Jw_callV3 (q9 := (RX7, TX7, 34)) moX7_turnsAll jw_ml_X7_211 jw_im_X7_turnsAll jw_se_X7_turnsAll ha0 rfl rfl dX7_reach_113 (w_X7_turnsAll_z (d - 1) _ a0 x1 x2 y112 g22n94 b61t20 b88p21 ((jdir x1.toInt).toNat ^ x2.toInt.toNat) L F42n94 F29n94 (by omega) hW  ha0 ⟨_, hOgs94a0, hFgs94a0_22⟩ ⟨_, hOgs94a0, hFgs94a0_20⟩ ⟨_, hOgs94a0, hFgs94a0_21⟩ hAF42n94 hAF29n94 (by omega) (by omega) (by omega) (by omega) (by omega) (by omega) rfl hrr) (by omega) (Nat.zero_le _) (Nat.zero_le _) (Nat.le_of_ble_eq_true rfl) (fun r113 V113 h113 => ?_)
                        obtain ⟨h113, hX113_0, hX113_1⟩ := h113
                        obtain ⟨hW, hx113, hr113⟩ := h113
                        have he := he.trans (hx113.sub (jsub_of rfl))
                        have hkp := hkp.trans hX113_1
                        have hct := hct.keep hx113 (jdis_of rfl)
                        have ha0 := ha0.mono hx113.1
                        have hbfd := hbfd.mono hx113.1
                        have hbrd := hbrd.mono hx113.1
                        have hb61t20 := hb61t20.mono hx113.1
                        have hb88p21 := hb88p21.mono hx113.1
                        obtain ⟨fs113a0, hOfs113a0, hRfs113a0⟩ := hx113.1.keep hOgs94a0
                        have hKfs113a0 : jokO _ (jFs 5) fs113a0 := hW _ _ id hOfs113a0
                        have hFfs113a0_18 := hRfs113a0 _ _ hFgs94a0_18
                        have hFfs113a0_19 := hRfs113a0 _ _ hFgs94a0_19
                        have hFfs113a0_20 := hRfs113a0 _ _ hFgs94a0_20
                        have hFfs113a0_21 := hRfs113a0 _ _ hFgs94a0_21
                        have d2 := hx113.2 _ _ d2 (jnot_of rfl)
                        have d1 := hx113.2 _ _ d1 (jnot_of rfl)
                        cases hr113
                        obtain ⟨M113, Q113, q113, hMa113, hQa113, hqf113, hrr113⟩ := hX113_0
                        have hrrN : jrr9 ((jdir x1.toInt).toNat ^ x2.toInt.toNat) M113 Q113 q113.toInt (jtas x1.toInt (jdir x1.toInt).toNat x2.toInt.toNat (jtur x1.toInt).toNat (jnth L i4n94.toInt.toNat) L (x2.toInt.toNat * (jtur x1.toInt).toNat)) := by
                          have q := hrr113
                          rw [show y112.toInt.toNat = jnth L i4n94.toInt.toNat by omega] at q
                          exact q
                        have hFv11322 := hqf113.get hOfs113a0
                        obtain ⟨hN_M113, hv_M113⟩ := WT_rngI (r := (0, 1)) hW id rfl hMa113
                        clear hN_M113
                        obtain ⟨hN_Q113, hv_Q113⟩ := WT_rngI (r := (0, 9999)) hW id rfl hQa113
                        clear hN_Q113
                        refine Jz_iinc 1 dX7_reach_116 rfl rfl (by decide) jEq.rf (by decide) (by omega) (by omega) (fun y116 he116 => ?_)
                        refine J_goto (tgt := 94) dX7_reach_119 (by decide) ?_
                        refine J.mask [true, true, true, true, true] ?_
                        exact ih94 _ y116 fs113a0 q113 M113 Q113 hW he ha0 hbfd hbrd hb61t20 hb88p21 hkp hct hOfs113a0 hFfs113a0_18 hFfs113a0_19 hFfs113a0_20 hFfs113a0_21 hFv11322 hMa113 hQa113 d2 d1 (by (try simp only [he116.eq, true_and, and_true]) <;> omega) (by rw [he116.eq, show (i4n94.toInt + 1).toNat = i4n94.toInt.toNat + 1 by omega]; exact ⟨_, hrrN, jbf_next (by omega) hln.2 hjb9⟩) (by (try simp only [he116.eq, true_and, and_true]) <;> omega)
                  refine J.mask [true, true, true, true, true] ?_
                  exact L94 _ _ y91 fs88a0 q88 M88 Q88 hW he ha0 hbfd hbrd hb61t20 hb88p21 hkp hct hOfs88a0 hFfs88a0_18 hFfs88a0_19 hFfs88a0_20 hFfs88a0_21 hFv8822 hMa88 hQa88 d2 d1 (by (try simp only [he91.eq, true_and, and_true]) <;> omega) (by rw [he91.eq]; exact ⟨[0], hrr1, rfl⟩) (Nat.lt_succ_self _)
                · refine J_aload_n dX7_reach_67 rfl ?_
                  refine J_get jf_X7_67 dX7_reach_68 hM hF61t20 ?_
                  refine J_iload dX7_reach_71 rfl ?_
                  refine Jz_iconst 0 dX7_reach_73 (by decide) (fun y73 he73 => ?_)
                  refine Jz_zast (r := (0, 1)) jEq.rf he73 hW id dX7_reach_74 hAF42n61 rfl rfl (by omega) (by omega) (by omega) (by omega) (fun _ h => vp_nar_b (by omega) (by omega)) (fun V74 G74 hW hx74 hA74 hp74 ho74 => ?_)
                  obtain ⟨hN74, hv74⟩ := WT_rngI (r := (0, 1)) hW id rfl hA74
                  clear hN74
                  have he := he.trans (hx74.sub (jsub_of rfl))
                  have hkp := hkp.trans (jkc.of hx74 (jnot_of rfl))
                  have hct := hct.keep hx74 (jdis_of rfl)
                  have ha0 := ha0.mono hx74.1
                  have hbfd := hbfd.mono hx74.1
                  have hbrd := hbrd.mono hx74.1
                  have hb61t20 := hb61t20.mono hx74.1
                  have hM := hx74.2 _ _ hM (jnot_of rfl)
                  have hKm := hKm.mono hx74.1
                  have d2 := hx74.2 _ _ d2 (jnot_of rfl)
                  have d1 := hx74.2 _ _ d1 (jnot_of rfl)
                  refine Jz_iinc 1 dX7_reach_75 rfl rfl (by decide) jEq.rf (by decide) (by omega) (by omega) (fun y75 he75 => ?_)
                  refine J_goto (tgt := 61) dX7_reach_78 (by decide) ?_
                  refine J.mask [true, true, true, true, true] ?_
                  exact ih61 _ y75 G74 hW he ha0 hbfd hbrd hb61t20 hkp hct hM hKm hA74 d2 d1 (by (try simp only [he75.eq, true_and, and_true]) <;> omega) (fun k hk => by rw [he75.eq] at hk; by_cases c : (k : Int) = i4n61.toInt; (have e : k = i4n61.toInt.toNat := by omega); subst e; rw [hp74, he73.eq]; rw [ho74 k (by omega)]; exact hz k (by omega)) (by (try simp only [he75.eq, true_and, and_true]) <;> omega)
            refine J.mask [true, true, true, true, true] ?_
            exact L61 _ _ y58 f61tb61t20 hW he ha0 hbfd hbrd hb61t20 hkp hct hM hKm hA61tb61t20 d2 d1 (by (try simp only [he58.eq, true_and, and_true]) <;> omega) (fun k hk => by rw [he58.eq] at hk; omega) (Nat.lt_succ_self _)
        · refine Jz_bipush (-5) dX7_reach_41 (by decide) (fun y41 he41 => ?_)
          exact J_ret (r := some (.int _)) dX7_reach_43 ⟨rfl, _, rfl, rfl⟩ (⟨⟨hW, he, ⟨_, rfl, (j_rng _).1, (j_rng _).2, (Or.inl ⟨by omega, Or.inl ⟨by omega, he41.eq⟩⟩)⟩⟩, hct, hrf, hkp⟩)
      · refine Jz_bipush (-2) dX7_reach_22 (by decide) (fun y22 he22 => ?_)
        exact J_ret (r := some (.int _)) dX7_reach_24 ⟨rfl, _, rfl, rfl⟩ (⟨⟨hW, he, ⟨_, rfl, (j_rng _).1, (j_rng _).2, (Or.inr ⟨by omega, he22.eq⟩)⟩⟩, hct, hrf, hkp⟩)
