set_option maxRecDepth 100000 in
set_option maxHeartbeats 8000000 in
theorem w_X6_squares_znew {tS : jTS} (d : Nat) (V0 : jH) (a0 : Nat) (x1 : Int32) (x2 : Int32) (fs : List Value) (tl : Nat) (f : Nat → Option Nat) (j : Nat) (A : Nat → jad) (hd : 28 ≤ d) (hW : WT V0) (ha0 : jis V0 (.inr 4) a0) (hx : V0 a0 = some (.inr (4, fs))) (h5 : fs[5]? = some (.ref tl)) (htl : V0 tl = some (.inl (5, 4, .inr (.inr (.inr (.inr f)))))) (hg : x1 = nI j) (hj : j < 4) (hb1 : ¬ x1 < 0) (hb2 : ¬ Int32.ofNat 4 ≤ x1) (hb3 : ¬ x2 < 0) (hb4 : x2 ≤ 20) (hf : f j = none) (hty4 : ∀ j : Nat, j < 4 → f j = none ∨ ∃ t : Nat, f j = some t ∧ jty V0 t (A j) (j : Int)) (hA5 : ∀ i j : Nat, i < 4 → j < 4 → i ≠ j → f i ≠ none → f j ≠ none → jsp (A i) (A j)) (hp0 : 0 ≤ x2.toInt) (hp1 : x2.toInt ≤ 20) : jTot tS mX6_squares d [.ref a0, .int x1, .int x2] V0 8 15738 (fun r V => (jPost [.inl 5, .inr 2, .inl 1, .inl 2, .inl 8, .inl 37, .inl 38] V0 (fun r _ => ∃ y : Int64, r = some (.long y) ∧ ((jTT (j : Int) x2.toInt.toNat jL0 ≤ 600000 ∧ y = (jrq (j : Int) x2.toInt.toNat).2.1) ∨ (600000 < jTT (j : Int) x2.toInt.toNat jL0 ∧ y = -5)))) r V ∧ jTL V a0 ∧ (∃ f2 : Nat → Option Nat, V tl = some (.inl (5, 4, .inr (.inr (.inr (.inr f2))))) ∧ (∀ i, i ≠ j → f2 i = f i) ∧ ∃ t, f2 j = some t) ∧ (jTF V0 a0 → jTF V a0)) := by
  refine jTot.of_J [some (.ref a0), some (.int x1), some (.int x2), none] moX6_squares (Nat.le_of_ble_eq_true rfl) rfl ?_
  have hrx1 := j_rng x1
  have hrx2 := j_rng x2
  have he : jeff [.inl 5, .inr 2, .inl 1, .inl 2, .inl 8, .inl 37, .inl 38] V0 V0 := jeff.refl _ _
  have hb30 := hb3
  have hKx : jokO V0 (jFs 4) fs := hW _ _ id hx
  have htlk : jis V0 (.inl 5) tl := ⟨_, htl, rfl⟩
  have hN4 : (4 : Nat) < 2 ^ 31 := by decide
  have hvt : ∀ (j b : Nat), j < 4 → f j = some b → jis V0 (.inr 2) b := by
    obtain ⟨n9, f9, h91, h92, h93, h94⟩ := WT_arrR hW id rfl htlk
    cases htl.symm.trans h91
    exact h94
  have hjj : ∀ j2 : Nat, x1 = nI j2 → j2 < 4 → j2 = j := fun j2 h1 h2 => by
    have h3 : x1.toNatClampNeg = j2 := by rw [h1]; exact nI_clamp (by omega)
    have h4 : x1.toNatClampNeg = j := by rw [hg]; exact nI_clamp (by omega)
    omega
  clear hN4
  have hx0 := hx
  have h50 := h5
  have htl0 := htl
  have hgj : x1.toInt = (j : Int) := by rw [hg]; exact nI_toInt (by omega)
  refine J_aload_n dX6_squares_0 rfl ?_
  refine J_iload_n dX6_squares_1 rfl ?_
  refine J_iload_n dX6_squares_2 rfl ?_
  refine Jz_iconst 0 dX6_squares_3 (by decide) (fun y3 he3 => ?_)
  refine Jw_callV3 (q9 := (RX6, TX6, 7)) moX6_tallyFor jw_ml_X6_149 jw_im_X6_tallyFor jw_se_X6_tallyFor ha0 rfl rfl dX6_squares_4 (w_X6_tallyFor_newz (d - 1) _ _ _ _ _ fs tl f j (by omega) hW ha0 hx h5 htl hg hj hf hb1 hb2 (by rw [(jI_inj.mp (he3.eq.trans rfl) : y3 = 0)]; exact hb30) hb4) (by omega) (by omega) (by omega) (Nat.le_of_ble_eq_true rfl) (fun r4 V4 h4 => ?_)
  obtain ⟨t, rfl, hW, hx4, hbt0, htl2, hjm⟩ := h4
  have he := he.trans (hx4.sub (jsub_of rfl))
  have ha0 := ha0.mono hx4.1
  have htlk := htlk.mono hx4.1
  have hx := hx4.2 _ _ hx (jnot_of rfl)
  have hKx := hKx.mono hx4.1
  have htlk : jis V4 (.inl 5) tl := ⟨_, htl2, rfl⟩
  obtain ⟨P, hnew, hty, hnf, hfa⟩ := hjm
  have htf : jHid (jTF V0 a0 → jTF V4 a0) := jHid.mk (fun q => jTF.fresh q hx0 h50 htl0 hx4.1 htl2 hf (va_up_self _ _ _) (fun i hi => va_up_ne _ _ hi) hnf hfa)
  obtain ⟨gv, R, sd, cd, tg, sp, ln, TK, WC, SQ, RC, BC, ⟨e1, e2, e3, e4⟩, ⟨⟨ts, hT, hF0⟩, i1, i2, i3, i4, i5⟩, ⟨r3, r4, r5, r6, r7⟩, ⟨d3, d4, d5, d6, d7⟩, htk, htal⟩ := id hty
  rw [← e1] at e2 e3 e4 htk htal
  have hF1 := i1.get hT
  have hF2 := i2.get hT
  have hF11 := i3.get hT
  have hF12 := i4.get hT
  have hF13 := i5.get hT
  have hF3 := r3.get hT
  have hF4 := r4.get hT
  have hF5 := r5.get hT
  have hF6 := r6.get hT
  have hF7 := r7.get hT
  have hbt : jis V4 (.inr 2) t := ⟨_, hT, rfl⟩
  have hKt : jokO V4 (jFs 2) ts := hW _ _ id hT
  have hbq3 : jis V4 (.inl 2) _ := ⟨_, d3, rfl⟩
  have hbq4 : jis V4 (.inl 8) _ := ⟨_, d4, rfl⟩
  have hbq5 : jis V4 (.inl 1) _ := ⟨_, d5, rfl⟩
  have hbq6 : jis V4 (.inl 37) _ := ⟨_, d6, rfl⟩
  have hbq7 : jis V4 (.inl 38) _ := ⟨_, d7, rfl⟩
  have hgq0 : 0 ≤ gv.toInt := by omega
  have hgq3 : gv.toInt ≤ 3 := by omega
  · refine J_astore_n dX6_squares_7 rfl (by decide) ?_
    refine J_aload_n dX6_squares_8 rfl ?_
    refine J_ifnonnull (tgt := 16) dX6_squares_9 (by decide) ?_
    refine J_aload_n dX6_squares_16 rfl ?_
    refine J_iload_n dX6_squares_17 rfl ?_
    refine Jw_callV1 (q9 := (RX4, TX4, 14)) moX4_holds jw_ml_X6_153 jw_im_X4_holds jw_se_X4_holds hbt rfl rfl dX6_squares_18 (w_X4_holds_z (d - 1) _ t x2 gv R sd cd tg sp P.1 P.2.1 P.2.2.1 P.2.2.2.1 P.2.2.2.2 ln TK WC SQ RC BC (by omega) hW  hbt ⟨_, hT, hF0⟩ ⟨_, hT, hF1⟩ ⟨_, hT, hF2⟩ ⟨_, hT, hF11⟩ ⟨_, hT, hF12⟩ ⟨_, hT, hF13⟩ ⟨_, hT, hF3⟩ ⟨_, hT, hF4⟩ ⟨_, hT, hF5⟩ ⟨_, hT, hF6⟩ ⟨_, hT, hF7⟩ d3 d4 d5 d6 d7 hgq0 hgq3 e2 e3 e4 (by omega) (by omega) htk htal) (by omega) (Nat.zero_le _) (Nat.zero_le _) (Nat.le_of_ble_eq_true rfl) (fun r18 V18 h18 => ?_)
    obtain ⟨h18, hX18_0, hX18_1, hX18_2, hX18_3, ⟨fv18_0, hfv18_0, hfp18_0⟩, ⟨fv18_1, hfv18_1, hfp18_1⟩, ⟨fv18_2, hfv18_2, hfp18_2⟩⟩ := h18
    obtain ⟨hW, hx18, hr18⟩ := h18
    have he := he.trans (hx18.sub (jsub_of rfl))
    have ha0 := ha0.mono hx18.1
    have htlk := htlk.mono hx18.1
    have hbt := hbt.mono hx18.1
    have hbq3 := hbq3.mono hx18.1
    have hbq4 := hbq4.mono hx18.1
    have hbq5 := hbq5.mono hx18.1
    have hbq6 := hbq6.mono hx18.1
    have hbq7 := hbq7.mono hx18.1
    have hx := hx18.2 _ _ hx (jnot_of rfl)
    have hKx := hKx.mono hx18.1
    obtain ⟨fs18t, hOfs18t, hRfs18t⟩ := hx18.1.keep hT
    have hKfs18t : jokO _ (jFs 2) fs18t := hW _ _ id hOfs18t
    have hFfs18t_3 := hRfs18t _ _ hF3
    have hFfs18t_4 := hRfs18t _ _ hF4
    have hFfs18t_5 := hRfs18t _ _ hF5
    have hFfs18t_6 := hRfs18t _ _ hF6
    have hFfs18t_7 := hRfs18t _ _ hF7
    have htl2 := hx18.2 _ _ htl2 (jnot_of rfl)
    obtain ⟨y18, rfl, hl18, hh18, hP18_0⟩ := hr18
    have hFv18_0 := hfv18_0.get hOfs18t
    have hsb18_0 : gv = fv18_0 := (jI_inj.mp hfp18_0).symm
    subst hsb18_0
    have hFv18_1 := hfv18_1.get hOfs18t
    have hsb18_1 : R = fv18_1 := (jI_inj.mp hfp18_1).symm
    subst hsb18_1
    have hFv18_2 := hfv18_2.get hOfs18t
    have hsb18_2 : sd = fv18_2 := (jI_inj.mp hfp18_2).symm
    subst hsb18_2
    clear hX18_0
    rw [e1] at hP18_0 hX18_1 hX18_2
    obtain ⟨WC18, SQ18, RC18, BC18, ⟨a4, a5, a6, a7⟩, hhas⟩ := hX18_2
    have hH9 := jHid.mk hhas
    clear hhas
    have hHP := jHid.mk hP18_0
    clear hP18_0
    have hjt : jTL V18 a0 := jTL.fresh hx0 h50 hty4 hA5 he.1 htl2 hj hf (va_up_self _ _ _) (fun i hi => va_up_ne _ _ hi) hX18_1 hnew (jTL.frs ⟨_, htl0, rfl⟩ hnew hfa hX18_3)
    obtain ⟨hN_WC18, hv_WC18⟩ := WT_rngI (r := ((-2147483648), 2147483647)) hW id rfl a4
    clear hN_WC18
    obtain ⟨hN_RC18, hv_RC18⟩ := WT_rngI (r := ((-2147483648), 2147483647)) hW id rfl a6
    clear hN_RC18
    obtain ⟨hN_BC18, hv_BC18⟩ := WT_rngI (r := ((-2147483648), 2147483647)) hW id rfl a7
    clear hN_BC18
    refine Jz_if_eq (tgt := 35) jEq.rf dX6_squares_21 (by decide) (fun c21 => ?_) (fun c21 => ?_)
    · refine J_ldc2 jw_k_X6_168 dX6_squares_35 ?_
      exact J_ret (r := some (.long _)) dX6_squares_38 ⟨rfl, rfl⟩ (⟨⟨hW, he, ⟨_, rfl, (Or.inr ⟨hHP.o.elim (fun q => absurd q.1 (by omega)) (fun q => q.2), rfl⟩)⟩⟩, hjt, ⟨_, htl2, fun i hi => va_up_ne _ _ hi, _, va_up_self _ _ _⟩, (fun q => (htf.o q).keep hx18 (jdis_of rfl))⟩)
    · have hle := jHid.mk (hHP.o.elim (fun q => q.2) (fun q => absurd q.1 (by omega)))
      have hh9 := jHid.mk (hH9.o hle.o)
      refine J_aload_n dX6_squares_24 rfl ?_
      refine J_get jf_X6_161 dX6_squares_25 hOfs18t hFfs18t_5 ?_
      refine J_iload_n dX6_squares_28 rfl ?_
      refine J_callS2 moX6_cell_ jw_ml_X6_165 jw_st_X6_cell_ dX6_squares_29 (w_X6_cell__x (d - 1) _ _ _ a5 (by decide) rfl (by omega) (by omega)) (by omega) (Nat.zero_le _) (Nat.zero_le _) (Nat.le_of_ble_eq_true rfl) (fun r29 V29 h29 => ?_)
      obtain ⟨⟨y29, rfl, hf29⟩, hE29⟩ := h29
      have hE29 := hE29.symm
      subst hE29
      · refine J_goto (tgt := 38) dX6_squares_32 (by decide) ?_
        exact J_ret (r := some (.long _)) dX6_squares_38 ⟨rfl, rfl⟩ (⟨⟨hW, he, ⟨_, rfl, (Or.inl ⟨hle.o, (hf29.symm.trans hh9.o.2.1)⟩)⟩⟩, hjt, ⟨_, htl2, fun i hi => va_up_ne _ _ hi, _, va_up_self _ _ _⟩, (fun q => (htf.o q).keep hx18 (jdis_of rfl))⟩)
