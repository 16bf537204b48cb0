set_option maxRecDepth 100000 in
set_option maxHeartbeats 8000000 in
theorem w_X6_forms_znew {tS : jTS} (d : Nat) (V0 : jH) (a0 : Nat) (x1 : Int32) (x2 : Int32) (fs : List Value) (tl : Nat) (f : Nat → Option Nat) (j : Nat) (A : Nat → jad) (tr : Nat) (MT : Int32) (gT : Int32) (nT : Int32) (sT : Nat) (xxT : Nat) (yyT : Nat) (zzT : Nat) (ST : Nat → Int32) (XT : Nat → Int32) (YT : Nat → Int32) (ZT : Nat → Int32) (hd : 28 ≤ d) (hW : WT V0) (ha0 : jis V0 (.inr 4) a0) (hx : V0 a0 = some (.inr (4, fs))) (h5 : fs[5]? = some (.ref tl)) (htl : V0 tl = some (.inl (5, 4, .inr (.inr (.inr (.inr f)))))) (hg : x1 = nI j) (hj : j < 4) (hb1 : ¬ x1 < 0) (hb2 : ¬ Int32.ofNat 4 ≤ x1) (hb3 : ¬ x2 < 0) (hb4 : x2 ≤ 20) (hf : f j = none) (hty4 : ∀ j : Nat, j < 4 → f j = none ∨ ∃ t : Nat, f j = some t ∧ jty V0 t (A j) (j : Int)) (hA5 : ∀ i j : Nat, i < 4 → j < 4 → i ≠ j → f i ≠ none → f j ≠ none → jsp (A i) (A j)) (hf_MT : jfI V0 tr 1 0 MT) (hf_gT : jfI V0 tr 1 5 gT) (hf_nT : jfI V0 tr 1 6 nT) (hr_sT : jfR V0 tr 1 1 sT) (hr_xxT : jfR V0 tr 1 2 xxT) (hr_yyT : jfR V0 tr 1 3 yyT) (hr_zzT : jfR V0 tr 1 4 zzT) (ha_ST : V0 sT = some (.inl (6, 120, .inl ST))) (ha_XT : V0 xxT = some (.inl (34, 121, .inl XT))) (ha_YT : V0 yyT = some (.inl (35, 121, .inl YT))) (ha_ZT : V0 zzT = some (.inl (36, 121, .inl ZT))) (hm_tr : MT.toInt = 120) (hn_tr : nT.toInt ≤ 120) (hr_tr : jfR V0 a0 4 2 tr) (htf0 : jTF V0 a0) (hp0 : 0 ≤ x2.toInt) (hp1 : x2.toInt ≤ 20) (hp2 : (XT 0).toInt = 0) (hp3 : (YT 0).toInt = 0) (hp4 : (ZT 0).toInt = 0) : jTot tS mX6_forms d [.ref a0, .int x1, .int x2] V0 8 15738 (fun r V => (jPost [.inl 5, .inr 2, .inl 1, .inl 2, .inl 8, .inl 37, .inl 38, .inr 1, .inl 6, .inl 34, .inl 35, .inl 36, .inl 13] V0 (fun r _ => ∃ y : Int32, r = some (.int y) ∧ ((-2147483648) ≤ y.toInt) ∧ (y.toInt ≤ 2147483647) ∧ ((7 < x2.toInt ∧ y.toInt = -2) ∨ (x2.toInt ≤ 7 ∧ (((600000 < jTT (j : Int) x2.toInt.toNat jL0 ∨ 3000 < (jrq (j : Int) x2.toInt.toNat).1) ∧ y.toInt = -5) ∨ (¬ (600000 < jTT (j : Int) x2.toInt.toNat jL0 ∨ 3000 < (jrq (j : Int) x2.toInt.toNat).1) ∧ y.toInt = ((jfo (j : Int) x2.toInt.toNat : Nat) : Int))))))) r V ∧ jTL V a0 ∧ jTF V a0 ∧ (∃ f2 : Nat → Option Nat, V tl = some (.inl (5, 4, .inr (.inr (.inr (.inr f2))))) ∧ (∀ i, i ≠ j → f2 i = f i) ∧ ∃ t, f2 j = some t) ∧ jrt a0 V0 V) := by
  refine jTot.of_J [some (.ref a0), some (.int x1), some (.int x2), none] moX6_forms (Nat.le_of_ble_eq_true rfl) rfl ?_
  have hrx1 := j_rng x1
  have hrx2 := j_rng x2
  have he : jeff [.inl 5, .inr 2, .inl 1, .inl 2, .inl 8, .inl 37, .inl 38, .inr 1, .inl 6, .inl 34, .inl 35, .inl 36, .inl 13] V0 V0 := jeff.refl _ _
  have hkr : jrt a0 V0 V0 := jrt.rf
  have hb30 := hb3
  have hKx : jokO V0 (jFs 4) fs := hW _ _ id hx
  have htlk : jis V0 (.inl 5) tl := ⟨_, htl, rfl⟩
  have hN4 : (4 : Nat) < 2 ^ 31 := by decide
  have hvt : ∀ (j b : Nat), j < 4 → f j = some b → jis V0 (.inr 2) b := by
    obtain ⟨n9, f9, h91, h92, h93, h94⟩ := WT_arrR hW id rfl htlk
    cases htl.symm.trans h91
    exact h94
  have hjj : ∀ j2 : Nat, x1 = nI j2 → j2 < 4 → j2 = j := fun j2 h1 h2 => by
    have h3 : x1.toNatClampNeg = j2 := by rw [h1]; exact nI_clamp (by omega)
    have h4 : x1.toNatClampNeg = j := by rw [hg]; exact nI_clamp (by omega)
    omega
  clear hN4
  have hx0 := hx
  have h50 := h5
  have htl0 := htl
  have hgj : x1.toInt = (j : Int) := by rw [hg]; exact nI_toInt (by omega)
  have hb_tr : jis V0 (.inr 1) tr := by obtain ⟨q1, q2, q3⟩ := hf_MT; exact ⟨_, q2, rfl⟩
  obtain ⟨fs_tr, hO_tr, hK_tr⟩ := WT_obj hW id hb_tr
  have hF_MT := hf_MT.get hO_tr
  have hrMT : 0 ≤ MT.toInt ∧ MT.toInt ≤ 120 := jok_rngI hK_tr rfl hF_MT
  have hF_gT := hf_gT.get hO_tr
  have hrgT : (-2147483648) ≤ gT.toInt ∧ gT.toInt ≤ 2147483647 := jok_rngI hK_tr rfl hF_gT
  have hF_nT := hf_nT.get hO_tr
  have hrnT : 0 ≤ nT.toInt ∧ nT.toInt ≤ 120 := jok_rngI hK_tr rfl hF_nT
  have hF_sT := hr_sT.get hO_tr
  have hb_sT : jis V0 (.inl 6) sT := ⟨_, ha_ST, rfl⟩
  obtain ⟨hN_ST, hv_ST⟩ := WT_rngI (r := (-2147483648, 2147483647)) hW id rfl ha_ST
  clear hN_ST
  have hF_xxT := hr_xxT.get hO_tr
  have hb_xxT : jis V0 (.inl 34) xxT := ⟨_, ha_XT, rfl⟩
  obtain ⟨hN_XT, hv_XT⟩ := WT_rngI (r := (-2147483648, 2147483647)) hW id rfl ha_XT
  clear hN_XT
  have hF_yyT := hr_yyT.get hO_tr
  have hb_yyT : jis V0 (.inl 35) yyT := ⟨_, ha_YT, rfl⟩
  obtain ⟨hN_YT, hv_YT⟩ := WT_rngI (r := (-2147483648, 2147483647)) hW id rfl ha_YT
  clear hN_YT
  have hF_zzT := hr_zzT.get hO_tr
  have hb_zzT : jis V0 (.inl 36) zzT := ⟨_, ha_ZT, rfl⟩
  obtain ⟨hN_ZT, hv_ZT⟩ := WT_rngI (r := (-2147483648, 2147483647)) hW id rfl ha_ZT
  clear hN_ZT
  have hF_tr := hr_tr.get hx
  have hz0 := hp2
  have hz1 := hp3
  have hz2 := hp4
  refine J_aload_n dX6_forms_0 rfl ?_
  refine J_iload_n dX6_forms_1 rfl ?_
  refine J_iload_n dX6_forms_2 rfl ?_
  refine Jz_iconst 0 dX6_forms_3 (by decide) (fun y3 he3 => ?_)
  refine Jw_callV3 (q9 := (RX6, TX6, 7)) moX6_tallyFor jw_ml_X6_149 jw_im_X6_tallyFor jw_se_X6_tallyFor ha0 rfl rfl dX6_forms_4 (w_X6_tallyFor_newz (d - 1) _ _ _ _ _ fs tl f j (by omega) hW ha0 hx h5 htl hg hj hf hb1 hb2 (by rw [(jI_inj.mp (he3.eq.trans rfl) : y3 = 0)]; exact hb30) hb4) (by omega) (by omega) (by omega) (Nat.le_of_ble_eq_true rfl) (fun r4 V4 h4 => ?_)
  obtain ⟨t, rfl, hW, hx4, hbt0, htl2, hjm⟩ := h4
  have hkr := hkr.trans he.1 (jrt.of hx4 (jdis_of rfl))
  have he := he.trans (hx4.sub (jsub_of rfl))
  have ha0 := ha0.mono hx4.1
  have htlk := htlk.mono hx4.1
  have hb_tr := hb_tr.mono hx4.1
  have hb_sT := hb_sT.mono hx4.1
  have hb_xxT := hb_xxT.mono hx4.1
  have hb_yyT := hb_yyT.mono hx4.1
  have hb_zzT := hb_zzT.mono hx4.1
  have hx := hx4.2 _ _ hx (jnot_of rfl)
  have hKx := hKx.mono hx4.1
  have hO_tr := hx4.2 _ _ hO_tr (jnot_of rfl)
  have hK_tr := hK_tr.mono hx4.1
  have ha_ST := hx4.2 _ _ ha_ST (jnot_of rfl)
  have ha_XT := hx4.2 _ _ ha_XT (jnot_of rfl)
  have ha_YT := hx4.2 _ _ ha_YT (jnot_of rfl)
  have ha_ZT := hx4.2 _ _ ha_ZT (jnot_of rfl)
  have htlk : jis V4 (.inl 5) tl := ⟨_, htl2, rfl⟩
  obtain ⟨P, hnew, hty, hnf, hfa⟩ := hjm
  have htf : jHid (jTF V0 a0 → jTF V4 a0) := jHid.mk (fun q => jTF.fresh q hx0 h50 htl0 hx4.1 htl2 hf (va_up_self _ _ _) (fun i hi => va_up_ne _ _ hi) hnf hfa)
  obtain ⟨gv, R, sd, cd, tg, sp, ln, TK, WC, SQ, RC, BC, ⟨e1, e2, e3, e4⟩, ⟨⟨ts, hT, hF0⟩, i1, i2, i3, i4, i5⟩, ⟨r3, r4, r5, r6, r7⟩, ⟨d3, d4, d5, d6, d7⟩, htk, htal⟩ := id hty
  rw [← e1] at e2 e3 e4 htk htal
  have hF1 := i1.get hT
  have hF2 := i2.get hT
  have hF11 := i3.get hT
  have hF12 := i4.get hT
  have hF13 := i5.get hT
  have hF3 := r3.get hT
  have hF4 := r4.get hT
  have hF5 := r5.get hT
  have hF6 := r6.get hT
  have hF7 := r7.get hT
  have hbt : jis V4 (.inr 2) t := ⟨_, hT, rfl⟩
  have hKt : jokO V4 (jFs 2) ts := hW _ _ id hT
  have hbq3 : jis V4 (.inl 2) _ := ⟨_, d3, rfl⟩
  have hbq4 : jis V4 (.inl 8) _ := ⟨_, d4, rfl⟩
  have hbq5 : jis V4 (.inl 1) _ := ⟨_, d5, rfl⟩
  have hbq6 : jis V4 (.inl 37) _ := ⟨_, d6, rfl⟩
  have hbq7 : jis V4 (.inl 38) _ := ⟨_, d7, rfl⟩
  have hgq0 : 0 ≤ gv.toInt := by omega
  have hgq3 : gv.toInt ≤ 3 := by omega
  have htf0 := htf.o htf0
  obtain ⟨fo, FO, q8, d8, hfo8, hup⟩ := jTF.at1 htf0 hx h5 htl2 hj (va_up_self _ _ _)
  have hF8 := q8.get hT
  have hbfo : jis V4 (.inl 13) fo := ⟨_, d8, rfl⟩
  have hjt0 : jTL V4 a0 := jTL.fresh hx0 h50 hty4 hA5 he.1 htl2 hj hf (va_up_self _ _ _) (fun i hi => va_up_ne _ _ hi) hty hnew (jTL.frs ⟨_, htl0, rfl⟩ hnew hfa jfp.rf)
  · refine J_astore_n dX6_forms_7 rfl (by decide) ?_
    refine J_aload_n dX6_forms_8 rfl ?_
    refine J_ifnull dX6_forms_9 ?_
    refine J_iload_n dX6_forms_12 rfl ?_
    refine Jz_bipush 7 dX6_forms_13 (by decide) (fun y13 he13 => ?_)
    refine Jz_icmp_le (tgt := 21) jEq.rf he13 dX6_forms_15 (by decide) (fun c15 => ?_) (fun c15 => ?_)
    · refine J_aload_n dX6_forms_21 rfl ?_
      refine J_iload_n dX6_forms_22 rfl ?_
      refine Jw_callV1 (q9 := (RX4, TX4, 14)) moX4_holds jw_ml_X6_153 jw_im_X4_holds jw_se_X4_holds hbt rfl rfl dX6_forms_23 (w_X4_holds_z (d - 1) _ t x2 gv R sd cd tg sp P.1 P.2.1 P.2.2.1 P.2.2.2.1 P.2.2.2.2 ln TK WC SQ RC BC (by omega) hW  hbt ⟨_, hT, hF0⟩ ⟨_, hT, hF1⟩ ⟨_, hT, hF2⟩ ⟨_, hT, hF11⟩ ⟨_, hT, hF12⟩ ⟨_, hT, hF13⟩ ⟨_, hT, hF3⟩ ⟨_, hT, hF4⟩ ⟨_, hT, hF5⟩ ⟨_, hT, hF6⟩ ⟨_, hT, hF7⟩ d3 d4 d5 d6 d7 hgq0 hgq3 e2 e3 e4 (by omega) (by omega) htk htal) (by omega) (Nat.zero_le _) (Nat.zero_le _) (Nat.le_of_ble_eq_true rfl) (fun r23 V23 h23 => ?_)
      obtain ⟨h23, hX23_0, hX23_1, hX23_2, hX23_3, ⟨fv23_0, hfv23_0, hfp23_0⟩, ⟨fv23_1, hfv23_1, hfp23_1⟩, ⟨fv23_2, hfv23_2, hfp23_2⟩⟩ := h23
      obtain ⟨hW, hx23, hr23⟩ := h23
      have hkr := hkr.trans he.1 (jrt.of hx23 (jdis_of rfl))
      have he := he.trans (hx23.sub (jsub_of rfl))
      have ha0 := ha0.mono hx23.1
      have htlk := htlk.mono hx23.1
      have hb_tr := hb_tr.mono hx23.1
      have hb_sT := hb_sT.mono hx23.1
      have hb_xxT := hb_xxT.mono hx23.1
      have hb_yyT := hb_yyT.mono hx23.1
      have hb_zzT := hb_zzT.mono hx23.1
      have hbt := hbt.mono hx23.1
      have hbq3 := hbq3.mono hx23.1
      have hbq4 := hbq4.mono hx23.1
      have hbq5 := hbq5.mono hx23.1
      have hbq6 := hbq6.mono hx23.1
      have hbq7 := hbq7.mono hx23.1
      have hbfo := hbfo.mono hx23.1
      have hx := hx23.2 _ _ hx (jnot_of rfl)
      have hKx := hKx.mono hx23.1
      have hO_tr := hx23.2 _ _ hO_tr (jnot_of rfl)
      have hK_tr := hK_tr.mono hx23.1
      obtain ⟨fs23t, hOfs23t, hRfs23t⟩ := hx23.1.keep hT
      have hKfs23t : jokO _ (jFs 2) fs23t := hW _ _ id hOfs23t
      have hFfs23t_3 := hRfs23t _ _ hF3
      have hFfs23t_4 := hRfs23t _ _ hF4
      have hFfs23t_5 := hRfs23t _ _ hF5
      have hFfs23t_6 := hRfs23t _ _ hF6
      have hFfs23t_7 := hRfs23t _ _ hF7
      have hFfs23t_8 := hRfs23t _ _ hF8
      have ha_ST := hx23.2 _ _ ha_ST (jnot_of rfl)
      have ha_XT := hx23.2 _ _ ha_XT (jnot_of rfl)
      have ha_YT := hx23.2 _ _ ha_YT (jnot_of rfl)
      have ha_ZT := hx23.2 _ _ ha_ZT (jnot_of rfl)
      have htl2 := hx23.2 _ _ htl2 (jnot_of rfl)
      have d8 := hx23.2 _ _ d8 (jnot_of rfl)
      obtain ⟨y23, rfl, hl23, hh23, hP23_0⟩ := hr23
      have hFv23_0 := hfv23_0.get hOfs23t
      have hsb23_0 : gv = fv23_0 := (jI_inj.mp hfp23_0).symm
      subst hsb23_0
      have hFv23_1 := hfv23_1.get hOfs23t
      have hsb23_1 : R = fv23_1 := (jI_inj.mp hfp23_1).symm
      subst hsb23_1
      have hFv23_2 := hfv23_2.get hOfs23t
      have hsb23_2 : sd = fv23_2 := (jI_inj.mp hfp23_2).symm
      subst hsb23_2
      clear hX23_0
      rw [e1] at hP23_0 hX23_1 hX23_2
      obtain ⟨WC23, SQ23, RC23, BC23, ⟨a4, a5, a6, a7⟩, hhas⟩ := hX23_2
      have hH9 := jHid.mk hhas
      clear hhas
      have hHP := jHid.mk hP23_0
      clear hP23_0
      have hjt : jTL V23 a0 := jTL.fresh hx0 h50 hty4 hA5 he.1 htl2 hj hf (va_up_self _ _ _) (fun i hi => va_up_ne _ _ hi) hX23_1 hnew (jTL.frs ⟨_, htl0, rfl⟩ hnew hfa hX23_3)
      have hfk : jfk fo _ V23 := jfk.of hx23 (jdis_of rfl)
      obtain ⟨hN_WC23, hv_WC23⟩ := WT_rngI (r := ((-2147483648), 2147483647)) hW id rfl a4
      clear hN_WC23
      obtain ⟨hN_RC23, hv_RC23⟩ := WT_rngI (r := ((-2147483648), 2147483647)) hW id rfl a6
      clear hN_RC23
      obtain ⟨hN_BC23, hv_BC23⟩ := WT_rngI (r := ((-2147483648), 2147483647)) hW id rfl a7
      clear hN_BC23
      refine Jz_if_eq (tgt := 43) jEq.rf dX6_forms_26 (by decide) (fun c26 => ?_) (fun c26 => ?_)
      · refine Jz_bipush (-5) dX6_forms_43 (by decide) (fun y43 he43 => ?_)
        exact J_ret (r := some (.int _)) dX6_forms_45 ⟨rfl, _, rfl, rfl⟩ (⟨⟨hW, he, ⟨_, rfl, (j_rng _).1, (j_rng _).2, (Or.inr ⟨by omega, Or.inl ⟨Or.inl (hHP.o.elim (fun q => absurd q.1 (by omega)) (fun q => q.2)), he43.eq⟩⟩)⟩⟩, hjt, htf0.keep hx23 (jdis_of rfl), ⟨_, htl2, fun i hi => va_up_ne _ _ hi, _, va_up_self _ _ _⟩, hkr⟩)
      · have hle := jHid.mk (hHP.o.elim (fun q => q.2) (fun q => absurd q.1 (by omega)))
        have hh9 := jHid.mk (hH9.o hle.o)
        refine J_aload_n dX6_forms_29 rfl ?_
        refine J_get jf_X6_156 dX6_forms_30 hOfs23t hFfs23t_4 ?_
        refine J_iload_n dX6_forms_33 rfl ?_
        refine J_callS2 moX6_cell jw_ml_X6_110 jw_st_X6_cell dX6_forms_34 (w_X6_cell_x (d - 1) _ P.2.1 x2 a4 (WT_rngI (r := (-2147483648, 2147483647)) hW id rfl a4).1 rfl (by omega) (by omega)) (by omega) (Nat.zero_le _) (Nat.zero_le _) (Nat.le_of_ble_eq_true rfl) (fun r34 V34 h34 => ?_)
        obtain ⟨⟨y34, rfl, hf34⟩, hE34⟩ := h34
        have hE34 := hE34.symm
        subst hE34
        have hz34 : jEq y34.toInt (WC23 (x2.toInt).toNat).toInt := by rw [← hf34]; rfl
        clear hf34
        · refine Jz_sipush 3000 dX6_forms_37 (by decide) (fun y37 he37 => ?_)
          refine Jz_icmp_le (tgt := 46) hz34 he37 dX6_forms_40 (by decide) (fun c40 => ?_) (fun c40 => ?_)
          · refine J_aload_n dX6_forms_46 rfl ?_
            refine J_get jf_X6_176 dX6_forms_47 hOfs23t hFfs23t_8 ?_
            refine J_iload_n dX6_forms_50 rfl ?_
            refine J_callS2 moX6_cell jw_ml_X6_110 jw_st_X6_cell dX6_forms_51 (w_X6_cell_x (d - 1) _ fo x2 d8 (WT_rngI (r := (-2147483648, 2147483647)) hW id rfl d8).1 rfl (by omega) (by omega)) (by omega) (Nat.zero_le _) (Nat.zero_le _) (Nat.le_of_ble_eq_true rfl) (fun r51 V51 h51 => ?_)
            obtain ⟨⟨y51, rfl, hf51⟩, hE51⟩ := h51
            have hE51 := hE51.symm
            subst hE51
            have hz51 : jEq y51.toInt (FO (x2.toInt).toNat).toInt := by rw [← hf51]; rfl
            clear hf51
            · refine Jz_iconst (-1) dX6_forms_54 (by decide) (fun y54 he54 => ?_)
              refine Jz_icmp_ne (tgt := 83) hz51 he54 dX6_forms_55 (by decide) (fun c55 => ?_) (fun c55 => ?_)
              · refine J_aload_n dX6_forms_83 rfl ?_
                refine J_get jf_X6_176 dX6_forms_84 hOfs23t hFfs23t_8 ?_
                refine J_iload_n dX6_forms_87 rfl ?_
                refine J_callS2 moX6_cell jw_ml_X6_110 jw_st_X6_cell dX6_forms_88 (w_X6_cell_x (d - 1) _ fo x2 d8 (WT_rngI (r := (-2147483648, 2147483647)) hW id rfl d8).1 rfl (by omega) (by omega)) (by omega) (Nat.zero_le _) (Nat.zero_le _) (Nat.le_of_ble_eq_true rfl) (fun r88 V88 h88 => ?_)
                obtain ⟨⟨y88, rfl, hf88⟩, hE88⟩ := h88
                have hE88 := hE88.symm
                subst hE88
                have hz88 : jEq y88.toInt (FO (x2.toInt).toNat).toInt := by rw [← hf88]; rfl
                clear hf88
                · exact J_ret (r := some (.int _)) dX6_forms_91 ⟨rfl, _, rfl, rfl⟩ (⟨⟨hW, he, ⟨_, rfl, (j_rng _).1, (j_rng _).2, (Or.inr ⟨by omega, Or.inr ⟨(fun z => z.elim (fun q => absurd q (Nat.not_lt.mpr hle.o)) (fun q => absurd q (by have w := hh9.o.1; omega))), by rw [hz88.eq]; exact (hfo8 x2.toInt.toNat (by omega)).elim (fun q => absurd q c55) id⟩⟩)⟩⟩, hjt, htf0.keep hx23 (jdis_of rfl), ⟨_, htl2, fun i hi => va_up_ne _ _ hi, _, va_up_self _ _ _⟩, hkr⟩)
              · refine J_aload_n dX6_forms_58 rfl ?_
                refine J_get jf_X6_22 dX6_forms_59 hx hF_tr ?_
                refine J_iload_n dX6_forms_62 rfl ?_
                refine Jw_callV1 (q9 := (RX3, TX3, 7)) moX3_begin jw_ml_X6_52 jw_im_X3_begin jw_se_X3_begin hb_tr rfl rfl dX6_forms_63 (w_X3_begin_zk (d - 1) _ tr x1 MT nT sT xxT yyT zzT ST XT YT ZT (by omega) hW  hb_tr ⟨_, hO_tr, hF_MT⟩ ⟨_, hO_tr, hF_nT⟩ ⟨_, hO_tr, hF_sT⟩ ⟨_, hO_tr, hF_xxT⟩ ⟨_, hO_tr, hF_yyT⟩ ⟨_, hO_tr, hF_zzT⟩ ha_ST ha_XT ha_YT ha_ZT) (by omega) (Nat.zero_le _) (Nat.zero_le _) (Nat.le_of_ble_eq_true rfl) (fun r63 V63 h63 => ?_)
                obtain ⟨h63, hX63_0, ⟨fv63_0, hfv63_0, hfp63_0⟩, ⟨fv63_1, hfv63_1, hfp63_1⟩, ⟨fv63_2, hfv63_2, hfp63_2⟩⟩ := h63
                obtain ⟨hW, hx63, hr63⟩ := h63
                have hkr := hkr.trans he.1 (jrt.call hx hF_tr hX63_0)
                have he := he.trans (hx63.sub (jsub_of rfl))
                have hjt := hjt.keep hx63 (jdis_of rfl)
                have hfk := hfk.keep hx63 (jdis_of rfl)
                have ha0 := ha0.mono hx63.1
                have htlk := htlk.mono hx63.1
                have hb_tr := hb_tr.mono hx63.1
                have hb_sT := hb_sT.mono hx63.1
                have hb_xxT := hb_xxT.mono hx63.1
                have hb_yyT := hb_yyT.mono hx63.1
                have hb_zzT := hb_zzT.mono hx63.1
                have hbt := hbt.mono hx63.1
                have hbq3 := hbq3.mono hx63.1
                have hbq4 := hbq4.mono hx63.1
                have hbq5 := hbq5.mono hx63.1
                have hbq6 := hbq6.mono hx63.1
                have hbq7 := hbq7.mono hx63.1
                have hbfo := hbfo.mono hx63.1
                have hx := hx63.2 _ _ hx (jnot_of rfl)
                have hKx := hKx.mono hx63.1
                obtain ⟨fs63tr, hOfs63tr, hRfs63tr⟩ := hx63.1.keep hO_tr
                have hKfs63tr : jokO _ (jFs 1) fs63tr := hW _ _ id hOfs63tr
                have hFfs63tr_1 := hRfs63tr _ _ hF_sT
                have hFfs63tr_2 := hRfs63tr _ _ hF_xxT
                have hFfs63tr_3 := hRfs63tr _ _ hF_yyT
                have hFfs63tr_4 := hRfs63tr _ _ hF_zzT
                have hOfs23t := hx63.2 _ _ hOfs23t (jnot_of rfl)
                have hKfs23t := hKfs23t.mono hx63.1
                have ha_ST := hx63.2 _ _ ha_ST (jnot_of rfl)
                have ha_XT := hx63.2 _ _ ha_XT (jnot_of rfl)
                have ha_YT := hx63.2 _ _ ha_YT (jnot_of rfl)
                have ha_ZT := hx63.2 _ _ ha_ZT (jnot_of rfl)
                have htl2 := hx63.2 _ _ htl2 (jnot_of rfl)
                have d8 := hx63.2 _ _ d8 (jnot_of rfl)
                have a4 := hx63.2 _ _ a4 (jnot_of rfl)
                have a5 := hx63.2 _ _ a5 (jnot_of rfl)
                have a6 := hx63.2 _ _ a6 (jnot_of rfl)
                have a7 := hx63.2 _ _ a7 (jnot_of rfl)
                cases hr63
                have hFv63_0 := hfv63_0.get hOfs63tr
                have hsb63_0 : MT = fv63_0 := (jI_inj.mp hfp63_0).symm
                subst hsb63_0
                have hFv63_1 := hfv63_1.get hOfs63tr
                have hsb63_1 : x1 = fv63_1 := (jI_inj.mp hfp63_1).symm
                subst hsb63_1
                have hFv63_2 := hfv63_2.get hOfs63tr
                have hzf63_2 : jEq fv63_2.toInt (0) := hfp63_2
                clear hfp63_2
                refine J_aload_n dX6_forms_66 rfl ?_
                refine J_get jf_X6_176 dX6_forms_67 hOfs23t hFfs23t_8 ?_
                refine J_iload_n dX6_forms_70 rfl ?_
                refine J_aload_n dX6_forms_71 rfl ?_
                refine J_get jf_X6_22 dX6_forms_72 hx hF_tr ?_
                refine J_iload_n dX6_forms_75 rfl ?_
                refine Jz_iconst 0 dX6_forms_76 (by decide) (fun y76 he76 => ?_)
                refine J_callSN3 moX1_countForms (host := "WalkGrounds") (List.mem_of_getElem? (i := 5) rfl) jw_st_X1_countForms dX6_forms_77 (w_X1_countForms_z 9 (d - 1) _ tr x2 y76 MT x1 fv63_2 sT xxT yyT zzT ST XT YT ZT (by omega) hW hb_tr (by (try simp only [he76.eq, true_and, and_true]) <;> omega) (by (try simp only [he76.eq, true_and, and_true]) <;> omega) ⟨_, hOfs63tr, hFv63_0⟩ ⟨_, hOfs63tr, hFv63_1⟩ ⟨_, hOfs63tr, hFv63_2⟩ ⟨_, hOfs63tr, hFfs63tr_1⟩ ⟨_, hOfs63tr, hFfs63tr_2⟩ ⟨_, hOfs63tr, hFfs63tr_3⟩ ⟨_, hOfs63tr, hFfs63tr_4⟩ ha_ST ha_XT ha_YT ha_ZT (by omega) (by omega) (by omega) (by rw [hzf63_2.eq, he76.eq]) (by rw [he76.eq]; omega) (by omega) (fun j9 hj9 => by rw [hzf63_2.eq] at hj9; omega) (by rw [hzf63_2.eq]; intro i hi; rw [show i = 0 by omega]; exact ⟨hz0, hz1, hz2⟩) (by rw [hzf63_2.eq]; exact jav.zero) (by (try simp only [he76.eq, hzf63_2.eq, true_and, and_true]) <;> omega)) (by omega) (Nat.zero_le _) (Nat.zero_le _) (Nat.le_of_ble_eq_true rfl) (fun r77 V77 h77 => ?_)
                obtain ⟨h77, hX77_0, hX77_1, hX77_2, ⟨fv77_0, hfv77_0, hfp77_0⟩, ⟨fv77_1, hfv77_1, hfp77_1⟩, ⟨fv77_2, hfv77_2, hfp77_2⟩⟩ := h77
                obtain ⟨hW, hx77, hr77⟩ := h77
                have hkr := hkr.trans he.1 (jrt.call hx hF_tr hX77_1)
                have he := he.trans (hx77.sub (jsub_of rfl))
                have hjt := hjt.keep hx77 (jdis_of rfl)
                have hfk := hfk.keep hx77 (jdis_of rfl)
                have ha0 := ha0.mono hx77.1
                have htlk := htlk.mono hx77.1
                have hb_tr := hb_tr.mono hx77.1
                have hb_sT := hb_sT.mono hx77.1
                have hb_xxT := hb_xxT.mono hx77.1
                have hb_yyT := hb_yyT.mono hx77.1
                have hb_zzT := hb_zzT.mono hx77.1
                have hbt := hbt.mono hx77.1
                have hbq3 := hbq3.mono hx77.1
                have hbq4 := hbq4.mono hx77.1
                have hbq5 := hbq5.mono hx77.1
                have hbq6 := hbq6.mono hx77.1
                have hbq7 := hbq7.mono hx77.1
                have hbfo := hbfo.mono hx77.1
                have hx := hx77.2 _ _ hx (jnot_of rfl)
                have hKx := hKx.mono hx77.1
                obtain ⟨fs77tr, hOfs77tr, hRfs77tr⟩ := hx77.1.keep hOfs63tr
                have hKfs77tr : jokO _ (jFs 1) fs77tr := hW _ _ id hOfs77tr
                have hFfs77tr_1 := hRfs77tr _ _ hFfs63tr_1
                have hFfs77tr_2 := hRfs77tr _ _ hFfs63tr_2
                have hFfs77tr_3 := hRfs77tr _ _ hFfs63tr_3
                have hFfs77tr_4 := hRfs77tr _ _ hFfs63tr_4
                have hOfs23t := hx77.2 _ _ hOfs23t (jnot_of rfl)
                have hKfs23t := hKfs23t.mono hx77.1
                have htl2 := hx77.2 _ _ htl2 (jnot_of rfl)
                have d8 := hx77.2 _ _ d8 (jnot_of rfl)
                have a4 := hx77.2 _ _ a4 (jnot_of rfl)
                have a5 := hx77.2 _ _ a5 (jnot_of rfl)
                have a6 := hx77.2 _ _ a6 (jnot_of rfl)
                have a7 := hx77.2 _ _ a7 (jnot_of rfl)
                obtain ⟨y77, rfl, hl77, hh77, hP77_0⟩ := hr77
                clear hl77 hh77
                try simp only [he76.eq, hzf63_2.eq] at hP77_0
                have hFv77_0 := hfv77_0.get hOfs77tr
                try simp only [he76.eq, hzf63_2.eq] at hfp77_0
                have hzf77_0 : jEq fv77_0.toInt ((0)) := hfp77_0
                clear hfp77_0
                have hFv77_1 := hfv77_1.get hOfs77tr
                try simp only [he76.eq, hzf63_2.eq] at hfp77_1
                have hsb77_1 : MT = fv77_1 := (jI_inj.mp hfp77_1).symm
                subst hsb77_1
                have hFv77_2 := hfv77_2.get hOfs77tr
                try simp only [he76.eq, hzf63_2.eq] at hfp77_2
                have hsb77_2 : x1 = fv77_2 := (jI_inj.mp hfp77_2).symm
                subst hsb77_2
                have hval : y77.toInt = ((jfo (j : Int) x2.toInt.toNat : Nat) : Int) := by
                  rw [hP77_0, show (x2.toInt - 0).toNat = x2.toInt.toNat by omega, hgj]
                  exact congrArg (fun z : Nat => (z : Int)) (jfc_congr _ (fun q hq => absurd hq (by omega)))
                refine J_callS3 moX6_put jw_ml_X6_183 jw_st_X6_put dX6_forms_80 (w_X6_put_z (d - 1) _ fo x2 y77 hW d8 (WT_rngI (r := (-2147483648, 2147483647)) hW id rfl d8).1 rfl rfl (by omega)) (by omega) (Nat.zero_le _) (Nat.zero_le _) (Nat.le_of_ble_eq_true rfl) (fun r80 V80 h80 => ?_)
                obtain ⟨rfl, hW, hx80, hB80, G80, hA80, hp80, ho80⟩ := h80
                obtain ⟨hN80, hv80⟩ := WT_rngI (r := (-2147483648, 2147483647)) hW id rfl hA80
                clear hN80
                have hkr := hkr.trans he.1 (jrt.of hx80 (jdis_of rfl))
                have he := he.trans (hx80.sub (jsub_of rfl))
                have ha0 := ha0.mono hx80.1
                have htlk := htlk.mono hx80.1
                have hb_tr := hb_tr.mono hx80.1
                have hb_sT := hb_sT.mono hx80.1
                have hb_xxT := hb_xxT.mono hx80.1
                have hb_yyT := hb_yyT.mono hx80.1
                have hb_zzT := hb_zzT.mono hx80.1
                have hbt := hbt.mono hx80.1
                have hbq3 := hbq3.mono hx80.1
                have hbq4 := hbq4.mono hx80.1
                have hbq5 := hbq5.mono hx80.1
                have hbq6 := hbq6.mono hx80.1
                have hbq7 := hbq7.mono hx80.1
                have hbfo := hbfo.mono hx80.1
                have hx := hx80.2 _ _ hx (jnot_of rfl)
                have hKx := hKx.mono hx80.1
                have hOfs77tr := hx80.2 _ _ hOfs77tr (jnot_of rfl)
                have hKfs77tr := hKfs77tr.mono hx80.1
                have hOfs23t := hx80.2 _ _ hOfs23t (jnot_of rfl)
                have hKfs23t := hKfs23t.mono hx80.1
                have htl2 := hx80.2 _ _ htl2 (jnot_of rfl)
                have a4 := hx80.2 _ _ a4 (jnot_of rfl)
                have a5 := hx80.2 _ _ a5 (jnot_of rfl)
                have a6 := hx80.2 _ _ a6 (jnot_of rfl)
                have a7 := hx80.2 _ _ a7 (jnot_of rfl)
                have hjt := hjt.keep hx80 (jdis_of rfl)
                have hfk := hfk.put hx80 hB80
                · refine J_aload_n dX6_forms_83 rfl ?_
                  refine J_get jf_X6_176 dX6_forms_84 hOfs23t hFfs23t_8 ?_
                  refine J_iload_n dX6_forms_87 rfl ?_
                  refine J_callS2 moX6_cell jw_ml_X6_110 jw_st_X6_cell dX6_forms_88 (w_X6_cell_x (d - 1) _ fo x2 hA80 (WT_rngI (r := (-2147483648, 2147483647)) hW id rfl hA80).1 rfl (by omega) (by omega)) (by omega) (Nat.zero_le _) (Nat.zero_le _) (Nat.le_of_ble_eq_true rfl) (fun r88 V88 h88 => ?_)
                  obtain ⟨⟨y88, rfl, hf88⟩, hE88⟩ := h88
                  have hE88 := hE88.symm
                  subst hE88
                  have hz88 : jEq y88.toInt (G80 (x2.toInt).toNat).toInt := by rw [← hf88]; rfl
                  clear hf88
                  · exact J_ret (r := some (.int _)) dX6_forms_91 ⟨rfl, _, rfl, rfl⟩ (⟨⟨hW, he, ⟨_, rfl, (j_rng _).1, (j_rng _).2, (Or.inr ⟨by omega, Or.inr ⟨(fun z => z.elim (fun q => absurd q (Nat.not_lt.mpr hle.o)) (fun q => absurd q (by have w := hh9.o.1; omega))), by rw [hz88.eq, hp80 (by omega)]; exact hval⟩⟩)⟩⟩, hjt, (hup _ _ hfk hA80 (fun m hm => by by_cases e : m = x2.toInt.toNat; (subst e; exact Or.inr (by rw [hp80 (by omega)]; exact hval)); (rw [ho80 m e]; exact hfo8 m hm))), ⟨_, htl2, fun i hi => va_up_ne _ _ hi, _, va_up_self _ _ _⟩, hkr⟩)
          · refine Jz_bipush (-5) dX6_forms_43 (by decide) (fun y43 he43 => ?_)
            exact J_ret (r := some (.int _)) dX6_forms_45 ⟨rfl, _, rfl, rfl⟩ (⟨⟨hW, he, ⟨_, rfl, (j_rng _).1, (j_rng _).2, (Or.inr ⟨by omega, Or.inl ⟨Or.inr (by have w := hh9.o.1; omega), he43.eq⟩⟩)⟩⟩, hjt, htf0.keep hx23 (jdis_of rfl), ⟨_, htl2, fun i hi => va_up_ne _ _ hi, _, va_up_self _ _ _⟩, hkr⟩)
    · refine Jz_bipush (-2) dX6_forms_18 (by decide) (fun y18 he18 => ?_)
      exact J_ret (r := some (.int _)) dX6_forms_20 ⟨rfl, _, rfl, rfl⟩ (⟨⟨hW, he, ⟨_, rfl, (j_rng _).1, (j_rng _).2, (Or.inl ⟨by omega, he18.eq⟩)⟩⟩, hjt0, htf0, ⟨_, htl2, fun i hi => va_up_ne _ _ hi, _, va_up_self _ _ _⟩, hkr⟩)
