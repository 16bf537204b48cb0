set_option maxRecDepth 100000 in
set_option maxHeartbeats 8000000 in
theorem w_X7_shortest_z {tS : jTS} (d : Nat) (V0 : jH) (a0 : Nat) (wd : Int32) (hg : Int32) (rh : Nat) (op : Nat → Bool) (H43 : Nat → Int32) (hd : 2 ≤ d) (hW : WT V0) (ha0 : jis V0 (.inr 5) a0) (hf_wd : jfI V0 a0 5 23 wd) (hf_hg : jfI V0 a0 5 24 hg) (hr_rh : jfR V0 a0 5 25 rh) (ha_H43 : V0 rh = some (.inl (43, 36, .inl H43))) (hp0 : 2 ≤ wd.toInt) (hp1 : wd.toInt ≤ 6) (hp2 : 2 ≤ hg.toInt) (hp3 : hg.toInt ≤ 6) (hp4 : jopr op wd.toInt.toNat hg.toInt.toNat H43) (hp5 : ∀ n : Nat, op n = true → 9 ≤ n) : jTot tS mX7_shortest d [.ref a0] V0 0 0 (fun r V => (jPost [.inr 5, .inl 33, .inl 29] V0 (fun r _ => ∃ y : Int32, r = some (.int y) ∧ ((-2147483648) ≤ y.toInt) ∧ (y.toInt ≤ 2147483647) ∧ (jshort op (wd.toInt + 8 * hg.toInt).toNat y.toInt))) r V ∧ jkc 5 [0, 23, 24, 26, 27, 28] V0 V) := by
  refine jTot.of_J [some (.ref a0), none, none, none] moX7_shortest (Nat.le_of_ble_eq_true rfl) rfl ?_
  have he : jeff [.inr 5, .inl 33, .inl 29] V0 V0 := jeff.refl _ _
  have hkp : jkc 5 [0, 23, 24, 26, 27, 28] V0 V0 := jkc.rf
  obtain ⟨fs_a0, hO_a0, hK_a0⟩ := WT_obj hW id ha0
  have hF_wd := hf_wd.get hO_a0
  have hrwd : 2 ≤ wd.toInt ∧ wd.toInt ≤ 6 := jok_rngI hK_a0 rfl hF_wd
  have hF_hg := hf_hg.get hO_a0
  have hrhg : 2 ≤ hg.toInt ∧ hg.toInt ≤ 6 := jok_rngI hK_a0 rfl hF_hg
  have hF_rh := hr_rh.get hO_a0
  obtain ⟨w_rh, hFq_rh, b_rh, hbq_rh, hb_rh⟩ := hK_a0.2 25 (.inr (some (.inl 43))) rfl
  cases hF_rh.symm.trans (hFq_rh.trans (congrArg some hbq_rh))
  obtain ⟨hN_H43, hv_H43⟩ := WT_rngI (r := (0, 1)) hW id rfl ha_H43
  clear hN_H43
  have hA0 := Int.mul_le_mul (show 2 ≤ wd.toInt by omega) (show 2 ≤ hg.toInt by omega) (by omega) (by omega)
  have hA1 := Int.mul_le_mul (show wd.toInt ≤ 6 by omega) (show hg.toInt ≤ 6 by omega) (by omega) (by omega)
  refine Jz_iconst 0 dX7_shortest_0 (by decide) (fun y0 he0 => ?_)
  refine J_istore_n dX7_shortest_1 rfl (by decide) ?_
  obtain ⟨w2t33, hF2t33, b2t33, rfl, hb2t33⟩ := hK_a0.2 33 (.inr (some (.inl 33))) rfl
  obtain ⟨n2tb2t33, f2tb2t33, hA2tb2t33, hN2tb2t33, hM2tb2t33, hv2tb2t33⟩ := WT_arrI (r := (-1, 35)) hW id rfl hb2t33
  obtain rfl := hM2tb2t33 36 rfl
  clear hN2tb2t33 hM2tb2t33
  have L2 : ∀ (N : Nat) (V : jH) (i1n2 : Int32) (F33n2 : Nat → Int32), WT V → jeff [.inr 5, .inl 33, .inl 29] V0 V → (jis V (.inr 5) a0) → (jis V (.inl 43) rh) → (jis V (.inl 33) b2t33) → (jkc 5 [0, 23, 24, 26, 27, 28] V0 V) → (V a0 = some (.inr (5, fs_a0))) → (jokO V (jFs 5) fs_a0) → (V b2t33 = some (.inl (33, 36, .inl F33n2))) → (V rh = some (.inl (43, 36, .inl H43))) → (0 ≤ i1n2.toInt) → (∀ k : Nat, (k : Int) < i1n2.toInt → (k = 0 → (F33n2 k).toInt = 0) ∧ (¬ k = 0 → (F33n2 k).toInt = -1)) → (300 - i1n2.toInt).toNat < N → J tS mX7_shortest d 2 [some (.ref a0), some (.int i1n2), none, none] [] V 0 0 (fun r V => (jPost [.inr 5, .inl 33, .inl 29] V0 (fun r _ => ∃ y : Int32, r = some (.int y) ∧ ((-2147483648) ≤ y.toInt) ∧ (y.toInt ≤ 2147483647) ∧ (jshort op (wd.toInt + 8 * hg.toInt).toNat y.toInt))) r V ∧ jkc 5 [0, 23, 24, 26, 27, 28] V0 V) := by
    intro N
    induction N with
    | zero => intro V i1n2 F33n2 hW he ha0 hb_rh hb2t33 hkp hO_a0 hK_a0 hAF33n2 ha_H43 hi1 hz hm; exact absurd hm (Nat.not_lt_zero _)
    | succ N ih =>
      intro V i1n2 F33n2 hW he ha0 hb_rh hb2t33 hkp hO_a0 hK_a0 hAF33n2 ha_H43 hi1 hz hm
      have ih2 := ih
      have hri1 := j_rng i1n2
      obtain ⟨hNF33n2, hvF33n2⟩ := WT_rngI (r := ((-1), 35)) hW id rfl hAF33n2
      clear hNF33n2
      refine J_iload_n dX7_shortest_2 rfl ?_
      refine Jz_bipush 36 dX7_shortest_3 (by decide) (fun y3 he3 => ?_)
      refine Jz_icmp_ge (tgt := 29) jEq.rf he3 dX7_shortest_5 (by decide) (fun c5 => ?_) (fun c5 => ?_)
      · refine J_aload_n dX7_shortest_29 rfl ?_
        refine Jz_iconst 1 dX7_shortest_30 (by decide) (fun y30 he30 => ?_)
        refine Jz_putI hO_a0 hW id rfl jf_X7_205 jt_X7_22 he30 dX7_shortest_31 (by omega) (by omega) (fun _ _ => ⟨rfl, rfl⟩) (fun V31 fs31 hW hx31 hO31 hS31 hT31 hB31 => ?_)
        have hK31 : jokO _ (jFs 5) fs31 := hW _ _ id hO31
        have hF31_23 := (hT31 23 (by decide)).trans hF_wd
        have hF31_24 := (hT31 24 (by decide)).trans hF_hg
        have hF31_25 := (hT31 25 (by decide)).trans hF_rh
        have hF31_33 := (hT31 33 (by decide)).trans hF2t33
        have he := he.trans (hx31.sub (jsub_of rfl))
        have hkp := hkp.trans (jkc.put hO_a0 hO31 hT31 hB31 (by decide))
        have ha0 := ha0.mono hx31.1
        have hb_rh := hb_rh.mono hx31.1
        have hb2t33 := hb2t33.mono hx31.1
        have hAF33n2 := hx31.2 _ _ hAF33n2 (jnot_of rfl)
        have ha_H43 := hx31.2 _ _ ha_H43 (jnot_of rfl)
        refine J_aload_n dX7_shortest_34 rfl ?_
        obtain ⟨w35, hF35, b35, rfl, hb35⟩ := hK31.2 21 (.inr (some (.inl 29))) rfl
        refine J_get jf_X7_70 dX7_shortest_35 hO31 hF35 ?_
        refine Jz_iconst 0 dX7_shortest_38 (by decide) (fun y38 he38 => ?_)
        refine Jz_iconst 0 dX7_shortest_39 (by decide) (fun y39 he39 => ?_)
        obtain ⟨n40, f40, hA40, hN40, hM40, hv40⟩ := WT_arrI (r := (0, 9999)) hW id rfl hb35
        obtain rfl := hM40 10000 rfl
        clear hN40 hM40
        refine Jz_iast (r := (0, 9999)) he38 he39 hW id dX7_shortest_40 hA40 rfl rfl (by omega) (by omega) (by omega) (by omega) (fun V40 G40 hW hx40 hA40 hp40 ho40 => ?_)
        obtain ⟨hN40, hv40⟩ := WT_rngI (r := (0, 9999)) hW id rfl hA40
        clear hN40
        have he := he.trans (hx40.sub (jsub_of rfl))
        have hkp := hkp.trans (jkc.of hx40 (jnot_of rfl))
        have ha0 := ha0.mono hx40.1
        have hb_rh := hb_rh.mono hx40.1
        have hb2t33 := hb2t33.mono hx40.1
        have hb35 := hb35.mono hx40.1
        have hO31 := hx40.2 _ _ hO31 (jnot_of rfl)
        have hK31 := hK31.mono hx40.1
        have hAF33n2 := hx40.2 _ _ hAF33n2 (jnot_of rfl)
        have ha_H43 := hx40.2 _ _ ha_H43 (jnot_of rfl)
        refine Jz_iconst 0 dX7_shortest_41 (by decide) (fun y41 he41 => ?_)
        refine J_istore_n dX7_shortest_42 rfl (by decide) ?_
        have L43 : ∀ (N : Nat) (V : jH) (i1n43 : Int32) (gs43a0 : List Value) (g22n43 : Int32) (F33n43 : Nat → Int32) (F29n43 : Nat → Int32), WT V → jeff [.inr 5, .inl 33, .inl 29] V0 V → (jis V (.inr 5) a0) → (jis V (.inl 43) rh) → (jis V (.inl 33) b2t33) → (jis V (.inl 29) b35) → (jkc 5 [0, 23, 24, 26, 27, 28] V0 V) → (V a0 = some (.inr (5, gs43a0))) → (gs43a0[22]? = some (.int g22n43)) → (gs43a0[23]? = some (.int wd)) → (gs43a0[24]? = some (.int hg)) → (gs43a0[25]? = some (.ref rh)) → (gs43a0[33]? = some (.ref b2t33)) → (gs43a0[21]? = some (.ref b35)) → (V b2t33 = some (.inl (33, 36, .inl F33n43))) → (V b35 = some (.inl (29, 10000, .inl F29n43))) → (V rh = some (.inl (43, 36, .inl H43))) → (0 ≤ i1n43.toInt) → ((jcn (-1) F33n43 36 : Int) = g22n43.toInt) → (∀ j : Nat, (j : Int) < g22n43.toInt → 0 ≤ (F29n43 j).toInt ∧ (F29n43 j).toInt ≤ 35 ∧ 0 ≤ (F33n43 (F29n43 j).toInt.toNat).toInt ∧ (F33n43 (F29n43 j).toInt.toNat).toInt ≤ (j : Int)) → (i1n43.toInt ≤ g22n43.toInt) → (jbq op wd.toInt.toNat (wd.toInt * hg.toInt) F29n43 F33n43 i1n43.toInt g22n43.toInt) → (300 - i1n43.toInt).toNat < N → J tS mX7_shortest d 43 [some (.ref a0), some (.int i1n43), none, none] [] V 0 0 (fun r V => (jPost [.inr 5, .inl 33, .inl 29] V0 (fun r _ => ∃ y : Int32, r = some (.int y) ∧ ((-2147483648) ≤ y.toInt) ∧ (y.toInt ≤ 2147483647) ∧ (jshort op (wd.toInt + 8 * hg.toInt).toNat y.toInt))) r V ∧ jkc 5 [0, 23, 24, 26, 27, 28] V0 V) := by
          intro N
          induction N with
          | zero => intro V i1n43 gs43a0 g22n43 F33n43 F29n43 hW he ha0 hb_rh hb2t33 hb35 hkp hOgs43a0 hFgs43a0_22 hFgs43a0_23 hFgs43a0_24 hFgs43a0_25 hFgs43a0_33 hFgs43a0_21 hAF33n43 hAF29n43 ha_H43 hk hcnt hque hkm hbq hm; exact absurd hm (Nat.not_lt_zero _)
          | succ N ih =>
            intro V i1n43 gs43a0 g22n43 F33n43 F29n43 hW he ha0 hb_rh hb2t33 hb35 hkp hOgs43a0 hFgs43a0_22 hFgs43a0_23 hFgs43a0_24 hFgs43a0_25 hFgs43a0_33 hFgs43a0_21 hAF33n43 hAF29n43 ha_H43 hk hcnt hque hkm hbq hm
            have ih43 := ih
            have hri1 := j_rng i1n43
            have hKgs43a0 : jokO V (jFs 5) gs43a0 := hW _ _ id hOgs43a0
            have hrgg22n43 : (-2147483648) ≤ g22n43.toInt ∧ g22n43.toInt ≤ 2147483647 := jok_rngI hKgs43a0 rfl hFgs43a0_22
            obtain ⟨hNF33n43, hvF33n43⟩ := WT_rngI (r := ((-1), 35)) hW id rfl hAF33n43
            clear hNF33n43
            obtain ⟨hNF29n43, hvF29n43⟩ := WT_rngI (r := (0, 9999)) hW id rfl hAF29n43
            clear hNF29n43
            have hle := jcn_le (c := -1) (F := F33n43) 36
            refine J_iload_n dX7_shortest_43 rfl ?_
            refine J_aload_n dX7_shortest_44 rfl ?_
            refine J_get jf_X7_205 dX7_shortest_45 hOgs43a0 hFgs43a0_22 ?_
            refine Jz_icmp_ge (tgt := 136) jEq.rf jEq.rf dX7_shortest_48 (by decide) (fun c48 => ?_) (fun c48 => ?_)
            · refine J_aload_n dX7_shortest_136 rfl ?_
              refine J_get jf_X7_95 dX7_shortest_137 hOgs43a0 hFgs43a0_33 ?_
              refine J_aload_n dX7_shortest_140 rfl ?_
              refine J_get jf_X7_73 dX7_shortest_141 hOgs43a0 hFgs43a0_23 ?_
              refine J_aload_n dX7_shortest_144 rfl ?_
              refine J_get jf_X7_77 dX7_shortest_145 hOgs43a0 hFgs43a0_24 ?_
              refine Jz_imul jEq.rf jEq.rf dX7_shortest_148 (by omega) (by omega) (fun y148 he148 => ?_)
              refine Jz_iconst 1 dX7_shortest_149 (by decide) (fun y149 he149 => ?_)
              refine Jz_isub he148 he149 dX7_shortest_150 (by omega) (by omega) (fun y150 he150 => ?_)
              refine Jz_iald (r := ((-1), 35)) he150 dX7_shortest_151 hAF33n43 rfl hvF33n43 (by omega) (by omega) (fun y151 hf151 hl151 hh151 => ?_)
              dsimp only at hl151 hh151
              exact J_ret (r := some (.int _)) dX7_shortest_152 ⟨rfl, _, rfl, rfl⟩ (⟨⟨hW, he, ⟨_, rfl, (j_rng _).1, (j_rng _).2, (by rw [← hf151]; exact hbq.short (i := i1n43.toInt) (by omega) (by omega) hp5 (by omega) (by omega) (by omega) ((jgoal (by omega) (by omega) (by omega) (by omega)).mp rfl) (by rw [hf151]; omega))⟩⟩, hkp⟩)
            · refine Jz_iconst 0 dX7_shortest_51 (by decide) (fun y51 he51 => ?_)
              refine J_istore_n dX7_shortest_52 rfl (by decide) ?_
              have L53 : ∀ (N : Nat) (V : jH) (i2n53 : Int32) (gs53a0 : List Value) (g22n53 : Int32) (F33n53 : Nat → Int32) (F29n53 : Nat → Int32), WT V → jeff [.inr 5, .inl 33, .inl 29] V0 V → (jis V (.inr 5) a0) → (jis V (.inl 43) rh) → (jis V (.inl 33) b2t33) → (jis V (.inl 29) b35) → (jkc 5 [0, 23, 24, 26, 27, 28] V0 V) → (V a0 = some (.inr (5, gs53a0))) → (gs53a0[22]? = some (.int g22n53)) → (gs53a0[23]? = some (.int wd)) → (gs53a0[24]? = some (.int hg)) → (gs53a0[25]? = some (.ref rh)) → (gs53a0[33]? = some (.ref b2t33)) → (gs53a0[21]? = some (.ref b35)) → (V b2t33 = some (.inl (33, 36, .inl F33n53))) → (V b35 = some (.inl (29, 10000, .inl F29n53))) → (V rh = some (.inl (43, 36, .inl H43))) → (0 ≤ i2n53.toInt) → (i1n43.toInt < g22n53.toInt) → ((jcn (-1) F33n53 36 : Int) = g22n53.toInt) → (∀ j : Nat, (j : Int) < g22n53.toInt → 0 ≤ (F29n53 j).toInt ∧ (F29n53 j).toInt ≤ 35 ∧ 0 ≤ (F33n53 (F29n53 j).toInt.toNat).toInt ∧ (F33n53 (F29n53 j).toInt.toNat).toInt ≤ (j : Int)) → (i2n53.toInt ≤ 4) → (jbq op wd.toInt.toNat (wd.toInt * hg.toInt) F29n53 F33n53 i1n43.toInt g22n53.toInt) → (jbn9 op wd.toInt.toNat (wd.toInt * hg.toInt) F29n53 F33n53 i1n43.toInt.toNat i2n53.toInt) → (300 - i2n53.toInt).toNat < N → J tS mX7_shortest d 53 [some (.ref a0), some (.int i1n43), some (.int i2n53), none] [] V 0 0 (fun r V => (jPost [.inr 5, .inl 33, .inl 29] V0 (fun r _ => ∃ y : Int32, r = some (.int y) ∧ ((-2147483648) ≤ y.toInt) ∧ (y.toInt ≤ 2147483647) ∧ (jshort op (wd.toInt + 8 * hg.toInt).toNat y.toInt))) r V ∧ jkc 5 [0, 23, 24, 26, 27, 28] V0 V) := by
                intro N
                induction N with
                | zero => intro V i2n53 gs53a0 g22n53 F33n53 F29n53 hW he ha0 hb_rh hb2t33 hb35 hkp hOgs53a0 hFgs53a0_22 hFgs53a0_23 hFgs53a0_24 hFgs53a0_25 hFgs53a0_33 hFgs53a0_21 hAF33n53 hAF29n53 ha_H43 hd hkq hcntb hqueb hd4 hbq2 hbn hm; exact absurd hm (Nat.not_lt_zero _)
                | succ N ih =>
                  intro V i2n53 gs53a0 g22n53 F33n53 F29n53 hW he ha0 hb_rh hb2t33 hb35 hkp hOgs53a0 hFgs53a0_22 hFgs53a0_23 hFgs53a0_24 hFgs53a0_25 hFgs53a0_33 hFgs53a0_21 hAF33n53 hAF29n53 ha_H43 hd hkq hcntb hqueb hd4 hbq2 hbn hm
                  have ih53 := ih
                  have hri2 := j_rng i2n53
                  have hKgs53a0 : jokO V (jFs 5) gs53a0 := hW _ _ id hOgs53a0
                  have hrgg22n53 : (-2147483648) ≤ g22n53.toInt ∧ g22n53.toInt ≤ 2147483647 := jok_rngI hKgs53a0 rfl hFgs53a0_22
                  obtain ⟨hNF33n53, hvF33n53⟩ := WT_rngI (r := ((-1), 35)) hW id rfl hAF33n53
                  clear hNF33n53
                  obtain ⟨hNF29n53, hvF29n53⟩ := WT_rngI (r := (0, 9999)) hW id rfl hAF29n53
                  clear hNF29n53
                  have hle := jcn_le (c := -1) (F := F33n53) 36
                  refine J_iload_n dX7_shortest_53 rfl ?_
                  refine Jz_iconst 4 dX7_shortest_54 (by decide) (fun y54 he54 => ?_)
                  refine Jz_icmp_ge (tgt := 130) jEq.rf he54 dX7_shortest_55 (by decide) (fun c55 => ?_) (fun c55 => ?_)
                  · refine Jz_iinc 1 dX7_shortest_130 rfl rfl (by decide) jEq.rf (by decide) (by omega) (by omega) (fun y130 he130 => ?_)
                    refine J_goto (tgt := 43) dX7_shortest_133 (by decide) ?_
                    refine J.mask [true, true, false, false] ?_
                    exact ih43 _ y130 gs53a0 g22n53 F33n53 F29n53 hW he ha0 hb_rh hb2t33 hb35 hkp hOgs53a0 hFgs53a0_22 hFgs53a0_23 hFgs53a0_24 hFgs53a0_25 hFgs53a0_33 hFgs53a0_21 hAF33n53 hAF29n53 ha_H43 (by (try simp only [he130.eq, true_and, and_true]) <;> omega) (by (try simp only [he130.eq, true_and, and_true]) <;> omega) hqueb (by (try simp only [he130.eq, true_and, and_true]) <;> omega) (by rw [he130.eq]; exact hbq2.next (by omega) (by omega) (by rw [show (4 : Int) = i2n53.toInt by omega]; exact hbn)) (by (try simp only [he130.eq, true_and, and_true]) <;> omega)
                  · refine J_aload_n dX7_shortest_58 rfl ?_
                    refine J_aload_n dX7_shortest_59 rfl ?_
                    refine J_get jf_X7_70 dX7_shortest_60 hOgs53a0 hFgs53a0_21 ?_
                    refine J_iload_n dX7_shortest_63 rfl ?_
                    refine Jz_iald (r := (0, 9999)) jEq.rf dX7_shortest_64 hAF29n53 rfl hvF29n53 (by omega) (by omega) (fun y64 hf64 hl64 hh64 => ?_)
                    dsimp only at hl64 hh64
                    have hb64 := hqueb i1n43.toInt.toNat (by omega)
                    rw [hf64] at hb64
                    refine J_iload_n dX7_shortest_65 rfl ?_
                    refine Jw_callV2 (q9 := (RX7, TX7, 34)) moX7_next jw_ml_X7_227 jw_im_X7_next jw_se_X7_next ha0 rfl rfl dX7_shortest_66 (w_X7_next_z (d - 1) _ a0 y64 i2n53 wd hg rh op H43 (by omega) hW  ha0 ⟨_, hOgs53a0, hFgs53a0_23⟩ ⟨_, hOgs53a0, hFgs53a0_24⟩ ⟨_, hOgs53a0, hFgs53a0_25⟩ ha_H43 (by omega) (by omega) (by omega) (by omega) hp4 (by omega) (by have q := (hbq2.2.2.1 i1n43.toInt.toNat (by omega)).1.2; rw [hf64] at q; exact q) (by omega) (by omega)) (by omega) (Nat.zero_le _) (Nat.zero_le _) (Nat.le_of_ble_eq_true rfl) (fun r66 V66 h66 => ?_)
                    obtain ⟨⟨y66, rfl, hl66, hh66, hP66_0⟩, hE66⟩ := h66
                    have hE66 := hE66.symm
                    subst hE66
                    refine J_istore_n dX7_shortest_69 rfl (by decide) ?_
                    refine J_iload_n dX7_shortest_70 rfl ?_
                    refine Jz_iconst (-1) dX7_shortest_71 (by decide) (fun y71 he71 => ?_)
                    refine Jz_icmp_eq (tgt := 124) jEq.rf he71 dX7_shortest_72 (by decide) (fun c72 => ?_) (fun c72 => ?_)
                    · have hpn : op (jdk (jpb9 wd.toInt.toNat (F29n53 i1n43.toInt.toNat).toInt.toNat) i2n53.toInt.toNat) = false := by rcases hP66_0 with ⟨-, q⟩ | ⟨q, -⟩; rw [(show jdk (jpb9 wd.toInt.toNat y64.toInt.toNat) i2n53.toInt.toNat = jdk (jpb9 wd.toInt.toNat (F29n53 i1n43.toInt.toNat).toInt.toNat) i2n53.toInt.toNat by rw [hf64])] at q; exact q; omega
                      refine Jz_iinc 1 dX7_shortest_124 rfl rfl (by decide) jEq.rf (by decide) (by omega) (by omega) (fun y124 he124 => ?_)
                      refine J_goto (tgt := 53) dX7_shortest_127 (by decide) ?_
                      refine J.mask [true, true, true, false] ?_
                      exact ih53 _ y124 gs53a0 g22n53 F33n53 F29n53 hW he ha0 hb_rh hb2t33 hb35 hkp hOgs53a0 hFgs53a0_22 hFgs53a0_23 hFgs53a0_24 hFgs53a0_25 hFgs53a0_33 hFgs53a0_21 hAF33n53 hAF29n53 ha_H43 (by (try simp only [he124.eq, true_and, and_true]) <;> omega) (by (try simp only [he124.eq, true_and, and_true]) <;> omega) (by (try simp only [he124.eq, true_and, and_true]) <;> omega) hqueb (by (try simp only [he124.eq, true_and, and_true]) <;> omega) hbq2 (by rw [he124.eq]; exact hbn.no (by omega) hpn) (by (try simp only [he124.eq, true_and, and_true]) <;> omega)
                    · have hpo : op (jdk (jpb9 wd.toInt.toNat (F29n53 i1n43.toInt.toNat).toInt.toNat) i2n53.toInt.toNat) = true := by rcases hP66_0 with ⟨q, -⟩ | ⟨-, -, q, -⟩; omega; rw [(show jdk (jpb9 wd.toInt.toNat y64.toInt.toNat) i2n53.toInt.toNat = jdk (jpb9 wd.toInt.toNat (F29n53 i1n43.toInt.toNat).toInt.toNat) i2n53.toInt.toNat by rw [hf64])] at q; exact q
                      have hpy : (0 ≤ y66.toInt ∧ y66.toInt < wd.toInt * hg.toInt) ∧ jpb9 wd.toInt.toNat y66.toInt.toNat = jdk (jpb9 wd.toInt.toNat (F29n53 i1n43.toInt.toNat).toInt.toNat) i2n53.toInt.toNat := by rcases hP66_0 with ⟨q, -⟩ | ⟨q1, q2, -, q⟩; omega; rw [(show jdk (jpb9 wd.toInt.toNat y64.toInt.toNat) i2n53.toInt.toNat = jdk (jpb9 wd.toInt.toNat (F29n53 i1n43.toInt.toNat).toInt.toNat) i2n53.toInt.toNat by rw [hf64])] at q; exact ⟨⟨q1, q2⟩, q⟩
                      have hpy1 := hpy.1
                      refine J_aload_n dX7_shortest_75 rfl ?_
                      refine J_get jf_X7_95 dX7_shortest_76 hOgs53a0 hFgs53a0_33 ?_
                      refine J_iload_n dX7_shortest_79 rfl ?_
                      refine Jz_iald (r := ((-1), 35)) jEq.rf dX7_shortest_80 hAF33n53 rfl hvF33n53 (by omega) (by omega) (fun y80 hf80 hl80 hh80 => ?_)
                      dsimp only at hl80 hh80
                      refine Jz_iconst (-1) dX7_shortest_81 (by decide) (fun y81 he81 => ?_)
                      refine Jz_icmp_ne (tgt := 124) jEq.rf he81 dX7_shortest_82 (by decide) (fun c82 => ?_) (fun c82 => ?_)
                      · refine Jz_iinc 1 dX7_shortest_124 rfl rfl (by decide) jEq.rf (by decide) (by omega) (by omega) (fun y124 he124 => ?_)
                        refine J_goto (tgt := 53) dX7_shortest_127 (by decide) ?_
                        refine J.mask [true, true, true, false] ?_
                        exact ih53 _ y124 gs53a0 g22n53 F33n53 F29n53 hW he ha0 hb_rh hb2t33 hb35 hkp hOgs53a0 hFgs53a0_22 hFgs53a0_23 hFgs53a0_24 hFgs53a0_25 hFgs53a0_33 hFgs53a0_21 hAF33n53 hAF29n53 ha_H43 (by (try simp only [he124.eq, true_and, and_true]) <;> omega) (by (try simp only [he124.eq, true_and, and_true]) <;> omega) (by (try simp only [he124.eq, true_and, and_true]) <;> omega) hqueb (by (try simp only [he124.eq, true_and, and_true]) <;> omega) hbq2 (by rw [he124.eq]; exact hbn.yes (r := y66.toInt.toNat) (by omega) (by omega) hpy.2 (hbq2.old (by omega) (by omega) (by omega) (by rw [hf80]; omega))) (by (try simp only [he124.eq, true_and, and_true]) <;> omega)
                      · have hlt := jcn_lt (c := -1) (F := F33n53) (k := y66.toInt.toNat) (by rw [hf80]; exact c82) 36 (by omega)
                        refine J_aload_n dX7_shortest_85 rfl ?_
                        refine J_get jf_X7_95 dX7_shortest_86 hOgs53a0 hFgs53a0_33 ?_
                        refine J_iload_n dX7_shortest_89 rfl ?_
                        refine J_aload_n dX7_shortest_90 rfl ?_
                        refine J_get jf_X7_95 dX7_shortest_91 hOgs53a0 hFgs53a0_33 ?_
                        refine J_aload_n dX7_shortest_94 rfl ?_
                        refine J_get jf_X7_70 dX7_shortest_95 hOgs53a0 hFgs53a0_21 ?_
                        refine J_iload_n dX7_shortest_98 rfl ?_
                        refine Jz_iald (r := (0, 9999)) jEq.rf dX7_shortest_99 hAF29n53 rfl hvF29n53 (by omega) (by omega) (fun y99 hf99 hl99 hh99 => ?_)
                        dsimp only at hl99 hh99
                        clear hl99 hh99
                        have he99 : jEq y99.toInt (y64.toInt) := by rw [← hf99, hf64]; exact jEq.rf
                        refine Jz_iald (r := ((-1), 35)) he99 dX7_shortest_100 hAF33n53 rfl hvF33n53 (by omega) (by omega) (fun y100 hf100 hl100 hh100 => ?_)
                        dsimp only at hl100 hh100
                        rw [hf100] at hb64
                        refine Jz_iconst 1 dX7_shortest_101 (by decide) (fun y101 he101 => ?_)
                        refine Jz_iadd jEq.rf he101 dX7_shortest_102 (by omega) (by omega) (fun y102 he102 => ?_)
                        refine Jz_iast (r := ((-1), 35)) jEq.rf he102 hW id dX7_shortest_103 hAF33n53 rfl rfl (by omega) (by omega) (by omega) (by omega) (fun V103 G103 hW hx103 hA103 hp103 ho103 => ?_)
                        obtain ⟨hN103, hv103⟩ := WT_rngI (r := ((-1), 35)) hW id rfl hA103
                        clear hN103
                        have he := he.trans (hx103.sub (jsub_of rfl))
                        have hkp := hkp.trans (jkc.of hx103 (jnot_of rfl))
                        have ha0 := ha0.mono hx103.1
                        have hb_rh := hb_rh.mono hx103.1
                        have hb2t33 := hb2t33.mono hx103.1
                        have hb35 := hb35.mono hx103.1
                        have hOgs53a0 := hx103.2 _ _ hOgs53a0 (jnot_of rfl)
                        have hKgs53a0 := hKgs53a0.mono hx103.1
                        have hAF29n53 := hx103.2 _ _ hAF29n53 (jnot_of rfl)
                        have ha_H43 := hx103.2 _ _ ha_H43 (jnot_of rfl)
                        refine J_aload_n dX7_shortest_104 rfl ?_
                        refine J_get jf_X7_70 dX7_shortest_105 hOgs53a0 hFgs53a0_21 ?_
                        refine J_aload_n dX7_shortest_108 rfl ?_
                        refine J_get jf_X7_205 dX7_shortest_109 hOgs53a0 hFgs53a0_22 ?_
                        refine J_iload_n dX7_shortest_112 rfl ?_
                        refine Jz_iast (r := (0, 9999)) jEq.rf jEq.rf hW id dX7_shortest_113 hAF29n53 rfl rfl (by omega) (by omega) (by omega) (by omega) (fun V113 G113 hW hx113 hA113 hp113 ho113 => ?_)
                        obtain ⟨hN113, hv113⟩ := WT_rngI (r := (0, 9999)) hW id rfl hA113
                        clear hN113
                        have he := he.trans (hx113.sub (jsub_of rfl))
                        have hkp := hkp.trans (jkc.of hx113 (jnot_of rfl))
                        have ha0 := ha0.mono hx113.1
                        have hb_rh := hb_rh.mono hx113.1
                        have hb2t33 := hb2t33.mono hx113.1
                        have hb35 := hb35.mono hx113.1
                        have hOgs53a0 := hx113.2 _ _ hOgs53a0 (jnot_of rfl)
                        have hKgs53a0 := hKgs53a0.mono hx113.1
                        have ha_H43 := hx113.2 _ _ ha_H43 (jnot_of rfl)
                        have hA103 := hx113.2 _ _ hA103 (jnot_of rfl)
                        refine J_aload_n dX7_shortest_114 rfl ?_
                        refine J_dup dX7_shortest_115 rfl ?_
                        refine J_get jf_X7_205 dX7_shortest_116 hOgs53a0 hFgs53a0_22 ?_
                        refine Jz_iconst 1 dX7_shortest_119 (by decide) (fun y119 he119 => ?_)
                        refine Jz_iadd jEq.rf he119 dX7_shortest_120 (by omega) (by omega) (fun y120 he120 => ?_)
                        refine Jz_putI hOgs53a0 hW id rfl jf_X7_205 jt_X7_22 he120 dX7_shortest_121 (by omega) (by omega) (fun _ _ => ⟨rfl, rfl⟩) (fun V121 fs121 hW hx121 hO121 hS121 hT121 hB121 => ?_)
                        have hK121 : jokO _ (jFs 5) fs121 := hW _ _ id hO121
                        have hF121_23 := (hT121 23 (by decide)).trans hFgs53a0_23
                        have hF121_24 := (hT121 24 (by decide)).trans hFgs53a0_24
                        have hF121_25 := (hT121 25 (by decide)).trans hFgs53a0_25
                        have hF121_33 := (hT121 33 (by decide)).trans hFgs53a0_33
                        have hF121_21 := (hT121 21 (by decide)).trans hFgs53a0_21
                        have he := he.trans (hx121.sub (jsub_of rfl))
                        have hkp := hkp.trans (jkc.put hOgs53a0 hO121 hT121 hB121 (by decide))
                        have ha0 := ha0.mono hx121.1
                        have hb_rh := hb_rh.mono hx121.1
                        have hb2t33 := hb2t33.mono hx121.1
                        have hb35 := hb35.mono hx121.1
                        have ha_H43 := hx121.2 _ _ ha_H43 (jnot_of rfl)
                        have hA103 := hx121.2 _ _ hA103 (jnot_of rfl)
                        have hA113 := hx121.2 _ _ hA113 (jnot_of rfl)
                        refine Jz_iinc 1 dX7_shortest_124 rfl rfl (by decide) jEq.rf (by decide) (by omega) (by omega) (fun y124 he124 => ?_)
                        refine J_goto (tgt := 53) dX7_shortest_127 (by decide) ?_
                        have hup := jcn_up (c := -1) (show (F33n53 y66.toInt.toNat).toInt = -1 by rw [hf80]; exact c82) (by rw [hp103, he102.eq]; omega) ho103 36 (by omega)
                        have hq9 := hqueb i1n43.toInt.toNat (by omega)
                        have hfy : (G103 y66.toInt.toNat).toInt = (F33n53 (F29n53 i1n43.toInt.toNat).toInt.toNat).toInt + 1 := by rw [hp103, he102.eq, ← hf100, hf64]
                        have hny : (F29n53 i1n43.toInt.toNat).toInt.toNat ≠ y66.toInt.toNat := fun z => by rw [z, hf80] at hq9; omega
                        have hadd := hbq2.add (Q' := G113) (F' := G103) (y := y66) (d := i2n53.toInt.toNat) (by omega) (by omega) ⟨by omega, hpy.1.2⟩ (by rw [hf80]; exact c82) hpo hpy.2 hfy ho103 hp113 ho113
                        refine J.mask [true, true, true, false] ?_
                        exact ih53 _ y124 fs121 y120 G103 G113 hW he ha0 hb_rh hb2t33 hb35 hkp hO121 hS121 hF121_23 hF121_24 hF121_25 hF121_33 hF121_21 hA103 hA113 ha_H43 (by (try simp only [he124.eq, he120.eq, true_and, and_true]) <;> omega) (by (try simp only [he124.eq, he120.eq, true_and, and_true]) <;> omega) (by (try simp only [he124.eq, he120.eq, true_and, and_true]) <;> omega) (fun j hj => by rw [he120.eq] at hj; exact (Nat.decEq j g22n53.toInt.toNat).byCases (fun hq => by rw [hq, hp113, hp103, he102.eq]; omega) (fun hq => by rw [ho113 j hq]; have h1 := hqueb j (by omega); rw [ho103 _ (fun h9 => by rw [h9, hf80] at h1; omega)]; exact h1)) (by (try simp only [he124.eq, he120.eq, true_and, and_true]) <;> omega) (by rw [he120.eq]; exact hadd.1) (by rw [he124.eq]; exact (hadd.2 _ _ (by omega) hbn).yes (r := y66.toInt.toNat) (by omega) (by omega) (by rw [ho113 _ (by omega)]; exact hpy.2) (by rw [ho113 _ (by omega), hfy, ho103 _ hny]; omega)) (by (try simp only [he124.eq, he120.eq, true_and, and_true]) <;> omega)
              refine J.mask [true, true, true, false] ?_
              exact L53 _ _ y51 gs43a0 g22n43 F33n43 F29n43 hW he ha0 hb_rh hb2t33 hb35 hkp hOgs43a0 hFgs43a0_22 hFgs43a0_23 hFgs43a0_24 hFgs43a0_25 hFgs43a0_33 hFgs43a0_21 hAF33n43 hAF29n43 ha_H43 (by (try simp only [he51.eq, true_and, and_true]) <;> omega) (by (try simp only [he51.eq, true_and, and_true]) <;> omega) (by (try simp only [he51.eq, true_and, and_true]) <;> omega) hque (by (try simp only [he51.eq, true_and, and_true]) <;> omega) hbq (by rw [he51.eq]; exact fun d hd => absurd hd (by omega)) (Nat.lt_succ_self _)
        refine J.mask [true, true, false, false] ?_
        exact L43 _ _ y41 fs31 y30 F33n2 G40 hW he ha0 hb_rh hb2t33 hb35 hkp hO31 hS31 hF31_23 hF31_24 hF31_25 hF31_33 hF35 hAF33n2 hA40 ha_H43 (by (try simp only [he41.eq, he30.eq, true_and, and_true]) <;> omega) (by rw [he30.eq, jcn_one (n := 36) (by rw [(hz 0 (by omega)).1 rfl]; decide) (fun k h1 h2 => (hz k (by omega)).2 (by omega)) (by omega)]; rfl) (fun j hj => by rw [he30.eq] at hj; rw [show j = Int.toNat 0 by omega, hp40, he39.eq, show (F33n2 (Int.toNat 0)).toInt = 0 from (hz 0 (by omega)).1 rfl]; omega) (by (try simp only [he41.eq, he30.eq, true_and, and_true]) <;> omega) (by rw [he30.eq, he41.eq]; exact jbq.init (by omega) ((congrArg Int32.toInt hp40).trans he39.eq) ((hz 0 (by omega)).1 rfl) (fun q h1 h2 => (hz q (by omega)).2 h1)) (Nat.lt_succ_self _)
      · refine J_aload_n dX7_shortest_8 rfl ?_
        refine J_get jf_X7_95 dX7_shortest_9 hO_a0 hF2t33 ?_
        refine J_iload_n dX7_shortest_12 rfl ?_
        refine J_iload_n dX7_shortest_13 rfl ?_
        have K22 : ∀ (t0k22 : Int32), ((i1n2.toInt = 0 ∧ t0k22.toInt = 0) ∨ (¬ i1n2.toInt = 0 ∧ t0k22.toInt = -1)) → J tS mX7_shortest d 22 [some (.ref a0), some (.int i1n2), none, none] [.int t0k22, .int i1n2, .ref b2t33] V 0 0 (fun r V => (jPost [.inr 5, .inl 33, .inl 29] V0 (fun r _ => ∃ y : Int32, r = some (.int y) ∧ ((-2147483648) ≤ y.toInt) ∧ (y.toInt ≤ 2147483647) ∧ (jshort op (wd.toInt + 8 * hg.toInt).toNat y.toInt))) r V ∧ jkc 5 [0, 23, 24, 26, 27, 28] V0 V) := by
          intro  t0k22     hk22_0
          refine Jz_iast (r := ((-1), 35)) jEq.rf jEq.rf hW id dX7_shortest_22 hAF33n2 rfl rfl (by omega) (by omega) (by omega) (by omega) (fun V22 G22 hW hx22 hA22 hp22 ho22 => ?_)
          obtain ⟨hN22, hv22⟩ := WT_rngI (r := ((-1), 35)) hW id rfl hA22
          clear hN22
          have he := he.trans (hx22.sub (jsub_of rfl))
          have hkp := hkp.trans (jkc.of hx22 (jnot_of rfl))
          have ha0 := ha0.mono hx22.1
          have hb_rh := hb_rh.mono hx22.1
          have hb2t33 := hb2t33.mono hx22.1
          have hO_a0 := hx22.2 _ _ hO_a0 (jnot_of rfl)
          have hK_a0 := hK_a0.mono hx22.1
          have ha_H43 := hx22.2 _ _ ha_H43 (jnot_of rfl)
          refine Jz_iinc 1 dX7_shortest_23 rfl rfl (by decide) jEq.rf (by decide) (by omega) (by omega) (fun y23 he23 => ?_)
          refine J_goto (tgt := 2) dX7_shortest_26 (by decide) ?_
          refine J.mask [true, true, false, false] ?_
          exact ih2 _ y23 G22 hW he ha0 hb_rh hb2t33 hkp hO_a0 hK_a0 hA22 ha_H43 (by (try simp only [he23.eq, true_and, and_true]) <;> omega) (fun k hk => by rw [he23.eq] at hk; exact (Nat.decEq k i1n2.toInt.toNat).byCases (fun hq => by rw [hq, hp22]; omega) (fun hq => by rw [ho22 k hq]; exact hz k (by omega))) (by (try simp only [he23.eq, true_and, and_true]) <;> omega)
        refine Jz_if_ne (tgt := 21) jEq.rf dX7_shortest_14 (by decide) (fun c14 => ?_) (fun c14 => ?_)
        · refine Jz_iconst (-1) dX7_shortest_21 (by decide) (fun y21 he21 => ?_)
          exact K22  y21  (by (try simp only [he21.eq, true_and, and_true]) <;> omega)
        · refine Jz_iconst 0 dX7_shortest_17 (by decide) (fun y17 he17 => ?_)
          refine J_goto (tgt := 22) dX7_shortest_18 (by decide) ?_
          exact K22  y17  (by (try simp only [he17.eq, true_and, and_true]) <;> omega)
  refine J.mask [true, true, false, false] ?_
  exact L2 _ _ y0 f2tb2t33 hW he ha0 hb_rh hb2t33 hkp hO_a0 hK_a0 hA2tb2t33 ha_H43 (by (try simp only [he0.eq, true_and, and_true]) <;> omega) (fun k hk => by rw [he0.eq] at hk; omega) (Nat.lt_succ_self _)
