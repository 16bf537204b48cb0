set_option maxRecDepth 100000 in
set_option maxHeartbeats 8000000 in
theorem w_X6_bridges_znew {tS : jTS} (d : Nat) (V0 : jH) (a0 : Nat) (x1 : Int32) (x2 : Int32) (fs : List Value) (tl : Nat) (f : Nat → Option Nat) (j : Nat) (A : Nat → jad) (hd : 28 ≤ d) (hW : WT V0) (ha0 : jis V0 (.inr 4) a0) (hx : V0 a0 = some (.inr (4, fs))) (h5 : fs[5]? = some (.ref tl)) (htl : V0 tl = some (.inl (5, 4, .inr (.inr (.inr (.inr f)))))) (hg : x1 = nI j) (hj : j < 4) (hb1 : ¬ x1 < 0) (hb2 : ¬ Int32.ofNat 4 ≤ x1) (hb3 : ¬ x2 < 1) (hb4 : x2 ≤ 20) (hf : f j = none) (hty4 : ∀ j : Nat, j < 4 → f j = none ∨ ∃ t : Nat, f j = some t ∧ jty V0 t (A j) (j : Int)) (hA5 : ∀ i j : Nat, i < 4 → j < 4 → i ≠ j → f i ≠ none → f j ≠ none → jsp (A i) (A j)) (hp0 : 1 ≤ x2.toInt) (hp1 : x2.toInt ≤ 20) : jTot tS mX6_bridges d [.ref a0, .int x1, .int x2] V0 8 15738 (fun r V => (jPost [.inl 5, .inr 2, .inl 1, .inl 2, .inl 8, .inl 37, .inl 38] V0 (fun r _ => ∃ y : Int32, r = some (.int y) ∧ ((-2147483648) ≤ y.toInt) ∧ (y.toInt ≤ 2147483647) ∧ ((jTT (j : Int) x2.toInt.toNat jL0 ≤ 600000 ∧ y = (jrq (j : Int) x2.toInt.toNat).2.2.2) ∨ (600000 < jTT (j : Int) x2.toInt.toNat jL0 ∧ y.toInt = -5)))) r V ∧ jTL V a0 ∧ (∃ f2 : Nat → Option Nat, V tl = some (.inl (5, 4, .inr (.inr (.inr (.inr f2))))) ∧ (∀ i, i ≠ j → f2 i = f i) ∧ ∃ t, f2 j = some t) ∧ (jTF V0 a0 → jTF V a0)) := by
  refine jTot.of_J [some (.ref a0), some (.int x1), some (.int x2), none] moX6_bridges (Nat.le_of_ble_eq_true rfl) rfl ?_
  have hrx1 := j_rng x1
  have hrx2 := j_rng x2
  have he : jeff [.inl 5, .inr 2, .inl 1, .inl 2, .inl 8, .inl 37, .inl 38] V0 V0 := jeff.refl _ _
  have hb30 := hb3
  have hKx : jokO V0 (jFs 4) fs := hW _ _ id hx
  have htlk : jis V0 (.inl 5) tl := ⟨_, htl, rfl⟩
  have hN4 : (4 : Nat) < 2 ^ 31 := by decide
  have hvt : ∀ (j b : Nat), j < 4 → f j = some b → jis V0 (.inr 2) b := by
    obtain ⟨n9, f9, h91, h92, h93, h94⟩ := WT_arrR hW id rfl htlk
    cases htl.symm.trans h91
    exact h94
  have hjj : ∀ j2 : Nat, x1 = nI j2 → j2 < 4 → j2 = j := fun j2 h1 h2 => by
    have h3 : x1.toNatClampNeg = j2 := by rw [h1]; exact nI_clamp (by omega)
    have h4 : x1.toNatClampNeg = j := by rw [hg]; exact nI_clamp (by omega)
    omega
  clear hN4
  have hx0 := hx
  have h50 := h5
  have htl0 := htl
  have hgj : x1.toInt = (j : Int) := by rw [hg]; exact nI_toInt (by omega)
  refine J_aload_n dX6_bridges_0 rfl ?_
  refine J_iload_n dX6_bridges_1 rfl ?_
  refine J_iload_n dX6_bridges_2 rfl ?_
  refine Jz_iconst 1 dX6_bridges_3 (by decide) (fun y3 he3 => ?_)
  refine Jw_callV3 (q9 := (RX6, TX6, 7)) moX6_tallyFor jw_ml_X6_149 jw_im_X6_tallyFor jw_se_X6_tallyFor ha0 rfl rfl dX6_bridges_4 (w_X6_tallyFor_newz (d - 1) _ _ _ _ _ fs tl f j (by omega) hW ha0 hx h5 htl hg hj hf hb1 hb2 (by rw [(jI_inj.mp (he3.eq.trans rfl) : y3 = 1)]; exact hb30) hb4) (by omega) (by omega) (by omega) (Nat.le_of_ble_eq_true rfl) (fun r4 V4 h4 => ?_)
  obtain ⟨t, rfl, hW, hx4, hbt0, htl2, hjm⟩ := h4
  have he := he.trans (hx4.sub (jsub_of rfl))
  have ha0 := ha0.mono hx4.1
  have htlk := htlk.mono hx4.1
  have hx := hx4.2 _ _ hx (jnot_of rfl)
  have hKx := hKx.mono hx4.1
  have htlk : jis V4 (.inl 5) tl := ⟨_, htl2, rfl⟩
  obtain ⟨P, hnew, hty, hnf, hfa⟩ := hjm
  have htf : jHid (jTF V0 a0 → jTF V4 a0) := jHid.mk (fun q => jTF.fresh q hx0 h50 htl0 hx4.1 htl2 hf (va_up_self _ _ _) (fun i hi => va_up_ne _ _ hi) hnf hfa)
  obtain ⟨gv, R, sd, cd, tg, sp, ln, TK, WC, SQ, RC, BC, ⟨e1, e2, e3, e4⟩, ⟨⟨ts, hT, hF0⟩, i1, i2, i3, i4, i5⟩, ⟨r3, r4, r5, r6, r7⟩, ⟨d3, d4, d5, d6, d7⟩, htk, htal⟩ := id hty
  rw [← e1] at e2 e3 e4 htk htal
  have hF1 := i1.get hT
  have hF2 := i2.get hT
  have hF11 := i3.get hT
  have hF12 := i4.get hT
  have hF13 := i5.get hT
  have hF3 := r3.get hT
  have hF4 := r4.get hT
  have hF5 := r5.get hT
  have hF6 := r6.get hT
  have hF7 := r7.get hT
  have hbt : jis V4 (.inr 2) t := ⟨_, hT, rfl⟩
  have hKt : jokO V4 (jFs 2) ts := hW _ _ id hT
  have hbq3 : jis V4 (.inl 2) _ := ⟨_, d3, rfl⟩
  have hbq4 : jis V4 (.inl 8) _ := ⟨_, d4, rfl⟩
  have hbq5 : jis V4 (.inl 1) _ := ⟨_, d5, rfl⟩
  have hbq6 : jis V4 (.inl 37) _ := ⟨_, d6, rfl⟩
  have hbq7 : jis V4 (.inl 38) _ := ⟨_, d7, rfl⟩
  have hgq0 : 0 ≤ gv.toInt := by omega
  have hgq3 : gv.toInt ≤ 3 := by omega
  · refine J_astore_n dX6_bridges_7 rfl (by decide) ?_
    refine J_aload_n dX6_bridges_8 rfl ?_
    refine J_ifnonnull (tgt := 15) dX6_bridges_9 (by decide) ?_
    refine J_aload_n dX6_bridges_15 rfl ?_
    refine J_iload_n dX6_bridges_16 rfl ?_
    refine Jw_callV1 (q9 := (RX4, TX4, 14)) moX4_holds jw_ml_X6_153 jw_im_X4_holds jw_se_X4_holds hbt rfl rfl dX6_bridges_17 (w_X4_holds_z (d - 1) _ t x2 gv R sd cd tg sp P.1 P.2.1 P.2.2.1 P.2.2.2.1 P.2.2.2.2 ln TK WC SQ RC BC (by omega) hW  hbt ⟨_, hT, hF0⟩ ⟨_, hT, hF1⟩ ⟨_, hT, hF2⟩ ⟨_, hT, hF11⟩ ⟨_, hT, hF12⟩ ⟨_, hT, hF13⟩ ⟨_, hT, hF3⟩ ⟨_, hT, hF4⟩ ⟨_, hT, hF5⟩ ⟨_, hT, hF6⟩ ⟨_, hT, hF7⟩ d3 d4 d5 d6 d7 hgq0 hgq3 e2 e3 e4 (by omega) (by omega) htk htal) (by omega) (Nat.zero_le _) (Nat.zero_le _) (Nat.le_of_ble_eq_true rfl) (fun r17 V17 h17 => ?_)
    obtain ⟨h17, hX17_0, hX17_1, hX17_2, hX17_3, ⟨fv17_0, hfv17_0, hfp17_0⟩, ⟨fv17_1, hfv17_1, hfp17_1⟩, ⟨fv17_2, hfv17_2, hfp17_2⟩⟩ := h17
    obtain ⟨hW, hx17, hr17⟩ := h17
    have he := he.trans (hx17.sub (jsub_of rfl))
    have ha0 := ha0.mono hx17.1
    have htlk := htlk.mono hx17.1
    have hbt := hbt.mono hx17.1
    have hbq3 := hbq3.mono hx17.1
    have hbq4 := hbq4.mono hx17.1
    have hbq5 := hbq5.mono hx17.1
    have hbq6 := hbq6.mono hx17.1
    have hbq7 := hbq7.mono hx17.1
    have hx := hx17.2 _ _ hx (jnot_of rfl)
    have hKx := hKx.mono hx17.1
    obtain ⟨fs17t, hOfs17t, hRfs17t⟩ := hx17.1.keep hT
    have hKfs17t : jokO _ (jFs 2) fs17t := hW _ _ id hOfs17t
    have hFfs17t_3 := hRfs17t _ _ hF3
    have hFfs17t_4 := hRfs17t _ _ hF4
    have hFfs17t_5 := hRfs17t _ _ hF5
    have hFfs17t_6 := hRfs17t _ _ hF6
    have hFfs17t_7 := hRfs17t _ _ hF7
    have htl2 := hx17.2 _ _ htl2 (jnot_of rfl)
    obtain ⟨y17, rfl, hl17, hh17, hP17_0⟩ := hr17
    have hFv17_0 := hfv17_0.get hOfs17t
    have hsb17_0 : gv = fv17_0 := (jI_inj.mp hfp17_0).symm
    subst hsb17_0
    have hFv17_1 := hfv17_1.get hOfs17t
    have hsb17_1 : R = fv17_1 := (jI_inj.mp hfp17_1).symm
    subst hsb17_1
    have hFv17_2 := hfv17_2.get hOfs17t
    have hsb17_2 : sd = fv17_2 := (jI_inj.mp hfp17_2).symm
    subst hsb17_2
    clear hX17_0
    rw [e1] at hP17_0 hX17_1 hX17_2
    obtain ⟨WC17, SQ17, RC17, BC17, ⟨a4, a5, a6, a7⟩, hhas⟩ := hX17_2
    have hH9 := jHid.mk hhas
    clear hhas
    have hHP := jHid.mk hP17_0
    clear hP17_0
    have hjt : jTL V17 a0 := jTL.fresh hx0 h50 hty4 hA5 he.1 htl2 hj hf (va_up_self _ _ _) (fun i hi => va_up_ne _ _ hi) hX17_1 hnew (jTL.frs ⟨_, htl0, rfl⟩ hnew hfa hX17_3)
    obtain ⟨hN_WC17, hv_WC17⟩ := WT_rngI (r := ((-2147483648), 2147483647)) hW id rfl a4
    clear hN_WC17
    obtain ⟨hN_RC17, hv_RC17⟩ := WT_rngI (r := ((-2147483648), 2147483647)) hW id rfl a6
    clear hN_RC17
    obtain ⟨hN_BC17, hv_BC17⟩ := WT_rngI (r := ((-2147483648), 2147483647)) hW id rfl a7
    clear hN_BC17
    refine Jz_if_eq (tgt := 34) jEq.rf dX6_bridges_20 (by decide) (fun c20 => ?_) (fun c20 => ?_)
    · refine Jz_bipush (-5) dX6_bridges_34 (by decide) (fun y34 he34 => ?_)
      exact J_ret (r := some (.int _)) dX6_bridges_36 ⟨rfl, _, rfl, rfl⟩ (⟨⟨hW, he, ⟨_, rfl, (j_rng _).1, (j_rng _).2, (Or.inr ⟨hHP.o.elim (fun q => absurd q.1 (by omega)) (fun q => q.2), he34.eq⟩)⟩⟩, hjt, ⟨_, htl2, fun i hi => va_up_ne _ _ hi, _, va_up_self _ _ _⟩, (fun q => (htf.o q).keep hx17 (jdis_of rfl))⟩)
    · have hle := jHid.mk (hHP.o.elim (fun q => q.2) (fun q => absurd q.1 (by omega)))
      have hh9 := jHid.mk (hH9.o hle.o)
      refine J_aload_n dX6_bridges_23 rfl ?_
      refine J_get jf_X6_173 dX6_bridges_24 hOfs17t hFfs17t_7 ?_
      refine J_iload_n dX6_bridges_27 rfl ?_
      refine J_callS2 moX6_cell jw_ml_X6_110 jw_st_X6_cell dX6_bridges_28 (w_X6_cell_x (d - 1) _ P.2.2.2.2 x2 a7 (WT_rngI (r := (-2147483648, 2147483647)) hW id rfl a7).1 rfl (by omega) (by omega)) (by omega) (Nat.zero_le _) (Nat.zero_le _) (Nat.le_of_ble_eq_true rfl) (fun r28 V28 h28 => ?_)
      obtain ⟨⟨y28, rfl, hf28⟩, hE28⟩ := h28
      have hE28 := hE28.symm
      subst hE28
      have hz28 : jEq y28.toInt (BC17 (x2.toInt).toNat).toInt := by rw [← hf28]; rfl
      clear hf28
      · refine J_goto (tgt := 36) dX6_bridges_31 (by decide) ?_
        exact J_ret (r := some (.int _)) dX6_bridges_36 ⟨rfl, _, rfl, rfl⟩ (⟨⟨hW, he, ⟨_, rfl, (j_rng _).1, (j_rng _).2, (Or.inl ⟨hle.o, ((jI_inj.mp hz28.eq).trans (hh9.o.2.2.2 (by omega)))⟩)⟩⟩, hjt, ⟨_, htl2, fun i hi => va_up_ne _ _ hi, _, va_up_self _ _ _⟩, (fun q => (htf.o q).keep hx17 (jdis_of rfl))⟩)
