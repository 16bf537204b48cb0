set_option maxRecDepth 100000 in
set_option maxHeartbeats 8000000 in
theorem w_X6_reach_zn {tS : jTS} (d : Nat) (V0 : jH) (a0 : Nat) (x1 : Int32) (x2 : Int32) (fs : List Value) (tl : Nat) (f : Nat → Option Nat) (j : Nat) (A : Nat → jad) (tr : Nat) (MT : Int32) (gT : Int32) (nT : Int32) (sT : Nat) (xxT : Nat) (yyT : Nat) (zzT : Nat) (ST : Nat → Int32) (XT : Nat → Int32) (YT : Nat → Int32) (ZT : Nat → Int32) (hd : 14 ≤ d) (hW : WT V0) (ha0 : jis V0 (.inr 4) a0) (hx : V0 a0 = some (.inr (4, fs))) (h5 : fs[5]? = some (.ref tl)) (htl : V0 tl = some (.inl (5, 4, .inr (.inr (.inr (.inr f)))))) (hg : x1 = nI j) (hj : j < 4) (hb1 : ¬ x1 < 0) (hb2 : ¬ Int32.ofNat 4 ≤ x1) (hb3 : ¬ x2 < 1) (hb4 : x2 ≤ 20) (hf : f j = none) (hty4 : ∀ j : Nat, j < 4 → f j = none ∨ ∃ t : Nat, f j = some t ∧ jty V0 t (A j) (j : Int)) (hA5 : ∀ i j : Nat, i < 4 → j < 4 → i ≠ j → f i ≠ none → f j ≠ none → jsp (A i) (A j)) (hf_MT : jfI V0 tr 1 0 MT) (hf_gT : jfI V0 tr 1 5 gT) (hf_nT : jfI V0 tr 1 6 nT) (hr_sT : jfR V0 tr 1 1 sT) (hr_xxT : jfR V0 tr 1 2 xxT) (hr_yyT : jfR V0 tr 1 3 yyT) (hr_zzT : jfR V0 tr 1 4 zzT) (ha_ST : V0 sT = some (.inl (6, 120, .inl ST))) (ha_XT : V0 xxT = some (.inl (34, 121, .inl XT))) (ha_YT : V0 yyT = some (.inl (35, 121, .inl YT))) (ha_ZT : V0 zzT = some (.inl (36, 121, .inl ZT))) (hm_tr : MT.toInt = 120) (hn_tr : nT.toInt ≤ 120) (hr_tr : jfR V0 a0 4 2 tr) (htf0 : jTF V0 a0) (hp0 : 1 ≤ x2.toInt) (hp1 : x2.toInt ≤ 20) (hp2 : (XT 0).toInt = 0) (hp3 : (YT 0).toInt = 0) (hp4 : (ZT 0).toInt = 0) : jTot tS mX6_reach d [.ref a0, .int x1, .int x2] V0 12 35751 (fun r V => (jPost [.inl 5, .inr 2, .inr 3, .inr 1, .inl 6, .inl 34, .inl 35, .inl 36, .inl 3, .inl 10, .inl 11, .inl 9] V0 (fun r _ => ∃ y : Int32, r = some (.int y) ∧ ((-2147483648) ≤ y.toInt) ∧ (y.toInt ≤ 2147483647) ∧ (((x1.toInt = 2 ∨ 6 < x2.toInt) ∧ y.toInt = -2) ∨ (¬ x1.toInt = 2 ∧ x2.toInt ≤ 6 ∧ ((10000 < jpw (jdir x1.toInt) x2.toInt.toNat ∧ y.toInt = -5) ∨ (jpw (jdir x1.toInt) x2.toInt.toNat ≤ 10000 ∧ y.toInt = ((jre (j : Int) x2.toInt.toNat : Nat) : Int))))))) r V ∧ jle9 V0 V ∧ (∃ f2 : Nat → Option Nat, V tl = some (.inl (5, 4, .inr (.inr (.inr (.inr f2))))) ∧ (∀ i, i ≠ j → f2 i = f i) ∧ ∃ t, f2 j = some t) ∧ jTL V a0 ∧ jTF V a0 ∧ jrt a0 V0 V) := by
  refine jTot.of_J [some (.ref a0), some (.int x1), some (.int x2), none, none, none] moX6_reach (Nat.le_of_ble_eq_true rfl) rfl ?_
  have hrx1 := j_rng x1
  have hrx2 := j_rng x2
  have he : jeff [.inl 5, .inr 2, .inr 3, .inr 1, .inl 6, .inl 34, .inl 35, .inl 36, .inl 3, .inl 10, .inl 11, .inl 9] V0 V0 := jeff.refl _ _
  have hkr : jrt a0 V0 V0 := jrt.rf
  have hj9 : jle9 V0 V0 := jle9.rf
  have hKx : jokO V0 (jFs 4) fs := hW _ _ id hx
  have htlk : jis V0 (.inl 5) tl := ⟨_, htl, rfl⟩
  have hN4 : (4 : Nat) < 2 ^ 31 := by decide
  have hvt : ∀ (j b : Nat), j < 4 → f j = some b → jis V0 (.inr 2) b := by
    obtain ⟨n9, f9, h91, h92, h93, h94⟩ := WT_arrR hW id rfl htlk
    cases htl.symm.trans h91
    exact h94
  have hjj : ∀ j2 : Nat, x1 = nI j2 → j2 < 4 → j2 = j := fun j2 h1 h2 => by
    have h3 : x1.toNatClampNeg = j2 := by rw [h1]; exact nI_clamp (by omega)
    have h4 : x1.toNatClampNeg = j := by rw [hg]; exact nI_clamp (by omega)
    omega
  clear hN4
  have hx0 := hx
  have h50 := h5
  have htl0 := htl
  have hgj : x1.toInt = (j : Int) := by rw [hg]; exact nI_toInt (by omega)
  have hb_tr : jis V0 (.inr 1) tr := by obtain ⟨q1, q2, q3⟩ := hf_MT; exact ⟨_, q2, rfl⟩
  obtain ⟨fs_tr, hO_tr, hK_tr⟩ := WT_obj hW id hb_tr
  have hF_MT := hf_MT.get hO_tr
  have hrMT : 0 ≤ MT.toInt ∧ MT.toInt ≤ 120 := jok_rngI hK_tr rfl hF_MT
  have hF_gT := hf_gT.get hO_tr
  have hrgT : (-2147483648) ≤ gT.toInt ∧ gT.toInt ≤ 2147483647 := jok_rngI hK_tr rfl hF_gT
  have hF_nT := hf_nT.get hO_tr
  have hrnT : 0 ≤ nT.toInt ∧ nT.toInt ≤ 120 := jok_rngI hK_tr rfl hF_nT
  have hF_sT := hr_sT.get hO_tr
  have hb_sT : jis V0 (.inl 6) sT := ⟨_, ha_ST, rfl⟩
  obtain ⟨hN_ST, hv_ST⟩ := WT_rngI (r := (-2147483648, 2147483647)) hW id rfl ha_ST
  clear hN_ST
  have hF_xxT := hr_xxT.get hO_tr
  have hb_xxT : jis V0 (.inl 34) xxT := ⟨_, ha_XT, rfl⟩
  obtain ⟨hN_XT, hv_XT⟩ := WT_rngI (r := (-2147483648, 2147483647)) hW id rfl ha_XT
  clear hN_XT
  have hF_yyT := hr_yyT.get hO_tr
  have hb_yyT : jis V0 (.inl 35) yyT := ⟨_, ha_YT, rfl⟩
  obtain ⟨hN_YT, hv_YT⟩ := WT_rngI (r := (-2147483648, 2147483647)) hW id rfl ha_YT
  clear hN_YT
  have hF_zzT := hr_zzT.get hO_tr
  have hb_zzT : jis V0 (.inl 36) zzT := ⟨_, ha_ZT, rfl⟩
  obtain ⟨hN_ZT, hv_ZT⟩ := WT_rngI (r := (-2147483648, 2147483647)) hW id rfl ha_ZT
  clear hN_ZT
  have hF_tr := hr_tr.get hx
  have hz0 := hp2
  have hz1 := hp3
  have hz2 := hp4
  refine J_aload_n dX6_reach_0 rfl ?_
  refine J_iload_n dX6_reach_1 rfl ?_
  refine J_iload_n dX6_reach_2 rfl ?_
  refine Jz_iconst 1 dX6_reach_3 (by decide) (fun y3 he3 => ?_)
  refine Jw_callV3 (q9 := (RX6, TX6, 7)) moX6_tallyFor jw_ml_X6_149 jw_im_X6_tallyFor jw_se_X6_tallyFor ha0 rfl rfl dX6_reach_4 (w_X6_tallyFor_newz (d - 1) _ _ _ _ _ fs tl f j (by omega) hW ha0 hx h5 htl hg hj hf hb1 hb2 (by rw [(jI_inj.mp (he3.eq.trans rfl) : y3 = 1)]; exact hb3) hb4) (by omega) (by omega) (by omega) (Nat.le_of_ble_eq_true rfl) (fun r4 V4 h4 => ?_)
  obtain ⟨t, rfl, hW, hx4, hbt, htl2, hjm⟩ := h4
  have hkr := hkr.trans he.1 (jrt.of hx4 (jdis_of rfl))
  have he := he.trans (hx4.sub (jsub_of rfl))
  have hj9 := hj9.trans (jle9.of hx4 (jnot_of rfl))
  have ha0 := ha0.mono hx4.1
  have htlk := htlk.mono hx4.1
  have hb_tr := hb_tr.mono hx4.1
  have hb_sT := hb_sT.mono hx4.1
  have hb_xxT := hb_xxT.mono hx4.1
  have hb_yyT := hb_yyT.mono hx4.1
  have hb_zzT := hb_zzT.mono hx4.1
  have hx := hx4.2 _ _ hx (jnot_of rfl)
  have hKx := hKx.mono hx4.1
  have hO_tr := hx4.2 _ _ hO_tr (jnot_of rfl)
  have hK_tr := hK_tr.mono hx4.1
  have ha_ST := hx4.2 _ _ ha_ST (jnot_of rfl)
  have ha_XT := hx4.2 _ _ ha_XT (jnot_of rfl)
  have ha_YT := hx4.2 _ _ ha_YT (jnot_of rfl)
  have ha_ZT := hx4.2 _ _ ha_ZT (jnot_of rfl)
  have htlk : jis V4 (.inl 5) tl := ⟨_, htl2, rfl⟩
  obtain ⟨P, hnew, hty, hnf, hfa⟩ := hjm
  have hjt : jTL V4 a0 := jTL.fresh hx0 h50 hty4 hA5 he.1 htl2 hj hf (va_up_self _ _ _) (fun i hi => va_up_ne _ _ hi) hty hnew (jTL.frs ⟨_, htl0, rfl⟩ hnew hfa jfp.rf)
  have htf1 : jTF V4 a0 := jTF.fresh htf0 hx0 h50 htl0 hx4.1 htl2 hf (va_up_self _ _ _) (fun i hi => va_up_ne _ _ hi) hnf hfa
  obtain ⟨rn, RN, q9, d9, hrn, hup⟩ := jTF.at2 htf1 hx h5 htl2 hj (va_up_self _ _ _)
  obtain ⟨ts, hT, hKt⟩ := WT_obj hW id hbt
  have hF9 := q9.get hT
  have hbrn : jis V4 (.inl 9) rn := ⟨_, d9, rfl⟩
  have hfk : jfk rn V4 V4 := jfk.rf
  · refine J_astore_n dX6_reach_7 rfl (by decide) ?_
    refine J_aload_n dX6_reach_8 rfl ?_
    refine J_ifnull dX6_reach_9 ?_
    refine J_iload_n dX6_reach_12 rfl ?_
    refine Jz_iconst 2 dX6_reach_13 (by decide) (fun y13 he13 => ?_)
    refine Jz_icmp_eq (tgt := 23) jEq.rf he13 dX6_reach_14 (by decide) (fun c14 => ?_) (fun c14 => ?_)
    · refine Jz_bipush (-2) dX6_reach_23 (by decide) (fun y23 he23 => ?_)
      exact J_ret (r := some (.int _)) dX6_reach_25 ⟨rfl, _, rfl, rfl⟩ (⟨⟨hW, he, ⟨_, rfl, (j_rng _).1, (j_rng _).2, (Or.inl ⟨by omega, he23.eq⟩)⟩⟩, hj9, ⟨_, htl2, fun i hi => va_up_ne _ _ hi, _, va_up_self _ _ _⟩, hjt, htf1, hkr⟩)
    · refine J_iload_n dX6_reach_17 rfl ?_
      refine Jz_bipush 6 dX6_reach_18 (by decide) (fun y18 he18 => ?_)
      refine Jz_icmp_le (tgt := 26) jEq.rf he18 dX6_reach_20 (by decide) (fun c20 => ?_) (fun c20 => ?_)
      · refine Jz_iconst 1 dX6_reach_26 (by decide) (fun y26 he26 => ?_)
        refine J_istore dX6_reach_27 rfl (by decide) ?_
        refine Jz_iconst 0 dX6_reach_29 (by decide) (fun y29 he29 => ?_)
        refine J_istore dX6_reach_30 rfl (by decide) ?_
        have L32 : ∀ (N : Nat) (i4n32 : Int32) (i5n32 : Int32), (0 ≤ i5n32.toInt ∧ i5n32.toInt ≤ x2.toInt) → (i4n32.toInt = jpw (jdir x1.toInt) i5n32.toInt.toNat) → (300 - i5n32.toInt).toNat < N → J tS mX6_reach d 32 [some (.ref a0), some (.int x1), some (.int x2), some (.ref t), some (.int i4n32), some (.int i5n32)] [] V4 4 20013 (fun r V => (jPost [.inl 5, .inr 2, .inr 3, .inr 1, .inl 6, .inl 34, .inl 35, .inl 36, .inl 3, .inl 10, .inl 11, .inl 9] V0 (fun r _ => ∃ y : Int32, r = some (.int y) ∧ ((-2147483648) ≤ y.toInt) ∧ (y.toInt ≤ 2147483647) ∧ (((x1.toInt = 2 ∨ 6 < x2.toInt) ∧ y.toInt = -2) ∨ (¬ x1.toInt = 2 ∧ x2.toInt ≤ 6 ∧ ((10000 < jpw (jdir x1.toInt) x2.toInt.toNat ∧ y.toInt = -5) ∨ (jpw (jdir x1.toInt) x2.toInt.toNat ≤ 10000 ∧ y.toInt = ((jre (j : Int) x2.toInt.toNat : Nat) : Int))))))) r V ∧ jle9 V0 V ∧ (∃ f2 : Nat → Option Nat, V tl = some (.inl (5, 4, .inr (.inr (.inr (.inr f2))))) ∧ (∀ i, i ≠ j → f2 i = f i) ∧ ∃ t, f2 j = some t) ∧ jTL V a0 ∧ jTF V a0 ∧ jrt a0 V0 V) := by
          intro N
          induction N with
          | zero => intro i4n32 i5n32  hi5 hpw hm; exact absurd hm (Nat.not_lt_zero _)
          | succ N ih =>
            intro i4n32 i5n32  hi5 hpw hm
            have ih32 := ih
            have hri5 := j_rng i5n32
            refine J_iload dX6_reach_32 rfl ?_
            refine J_iload_n dX6_reach_34 rfl ?_
            refine Jz_icmp_ge (tgt := 53) jEq.rf jEq.rf dX6_reach_35 (by decide) (fun c35 => ?_) (fun c35 => ?_)
            · have hall : i4n32.toInt = jpw (jdir x1.toInt) x2.toInt.toNat := by rw [hpw, show i5n32.toInt.toNat = x2.toInt.toNat by omega]
              refine J_iload dX6_reach_53 rfl ?_
              refine Jz_sipush 10000 dX6_reach_55 (by decide) (fun y55 he55 => ?_)
              refine Jz_icmp_le (tgt := 64) jEq.rf he55 dX6_reach_58 (by decide) (fun c58 => ?_) (fun c58 => ?_)
              · refine J_aload_n dX6_reach_64 rfl ?_
                refine J_get jf_X6_190 dX6_reach_65 hT hF9 ?_
                refine J_iload_n dX6_reach_68 rfl ?_
                refine J_callS2 moX6_cell jw_ml_X6_110 jw_st_X6_cell dX6_reach_69 (w_X6_cell_x (d - 1) _ _ _ d9 (by decide) rfl (by omega) (by omega)) (by omega) (Nat.zero_le _) (Nat.zero_le _) (Nat.le_of_ble_eq_true rfl) (fun r69 V69 h69 => ?_)
                obtain ⟨⟨y69, rfl, hf69⟩, hE69⟩ := h69
                have hE69 := hE69.symm
                subst hE69
                · refine Jz_iconst (-1) dX6_reach_72 (by decide) (fun y72 he72 => ?_)
                  refine Jz_icmp_ne (tgt := 102) jEq.rf he72 dX6_reach_73 (by decide) (fun c73 => ?_) (fun c73 => ?_)
                  · refine J_aload_n dX6_reach_102 rfl ?_
                    refine J_get jf_X6_190 dX6_reach_103 hT hF9 ?_
                    refine J_iload_n dX6_reach_106 rfl ?_
                    refine J_callS2 moX6_cell jw_ml_X6_110 jw_st_X6_cell dX6_reach_107 (w_X6_cell_x (d - 1) _ _ _ d9 (by decide) rfl (by omega) (by omega)) (by omega) (Nat.zero_le _) (Nat.zero_le _) (Nat.le_of_ble_eq_true rfl) (fun r107 V107 h107 => ?_)
                    obtain ⟨⟨y107, rfl, hf107⟩, hE107⟩ := h107
                    have hE107 := hE107.symm
                    subst hE107
                    · exact J_ret (r := some (.int _)) dX6_reach_110 ⟨rfl, _, rfl, rfl⟩ (⟨⟨hW, he, ⟨_, rfl, (j_rng _).1, (j_rng _).2, (Or.inr ⟨by omega, by omega, Or.inr ⟨by omega, by rw [← hf107]; exact (hrn x2.toInt.toNat (by omega)).elim (fun q => absurd q (by rw [hf69]; omega)) id⟩⟩)⟩⟩, hj9, ⟨_, htl2, fun i hi => va_up_ne _ _ hi, _, va_up_self _ _ _⟩, hjt, htf1, hkr⟩)
                  · refine J_aload_n dX6_reach_76 rfl ?_
                    refine J_get jf_X6_190 dX6_reach_77 hT hF9 ?_
                    refine J_iload_n dX6_reach_80 rfl ?_
                    have hjb : 3 ≤ jdir x1.toInt ∧ jdir x1.toInt ≤ 6 := by have q := jdir_cases x1.toInt; omega
                    have hRX : i4n32.toInt.toNat = (jdir x1.toInt).toNat ^ x2.toInt.toNat := by have q := jpw_nat (d := jdir x1.toInt) (by omega) x2.toInt.toNat; omega
                    have hjp1 := jpw_pos (show 1 ≤ jdir x1.toInt by omega) i5n32.toInt.toNat
                    refine Jc_new jn_X6_193 dX6_reach_81 (by decide) (by decide) hW (fun q81 V81 hn81 hQ81 hk81 hW hx81 => ?_)
                    have hkr := hkr.trans he.1 (jrt.of hx81 (jdis_of rfl))
                    have he := he.trans (hx81.sub (jsub_of rfl))
                    have hj9 := hj9.trans (jle9.of hx81 (jnot_of rfl))
                    have hjt := hjt.keep hx81 (jdis_of rfl)
                    have hfk := hfk.keep hx81 (jdis_of rfl)
                    have ha0 := ha0.mono hx81.1
                    have htlk := htlk.mono hx81.1
                    have hb_tr := hb_tr.mono hx81.1
                    have hb_sT := hb_sT.mono hx81.1
                    have hb_xxT := hb_xxT.mono hx81.1
                    have hb_yyT := hb_yyT.mono hx81.1
                    have hb_zzT := hb_zzT.mono hx81.1
                    have hbt := hbt.mono hx81.1
                    have hbrn := hbrn.mono hx81.1
                    have hx := hx81.2 _ _ hx (jnot_of rfl)
                    have hKx := hKx.mono hx81.1
                    have hO_tr := hx81.2 _ _ hO_tr (jnot_of rfl)
                    have hK_tr := hK_tr.mono hx81.1
                    have hT := hx81.2 _ _ hT (jnot_of rfl)
                    have hKt := hKt.mono hx81.1
                    have ha_ST := hx81.2 _ _ ha_ST (jnot_of rfl)
                    have ha_XT := hx81.2 _ _ ha_XT (jnot_of rfl)
                    have ha_YT := hx81.2 _ _ ha_YT (jnot_of rfl)
                    have ha_ZT := hx81.2 _ _ ha_ZT (jnot_of rfl)
                    have htl2 := hx81.2 _ _ htl2 (jnot_of rfl)
                    have d9 := hx81.2 _ _ d9 (jnot_of rfl)
                    refine J_dup dX6_reach_84 rfl ?_
                    refine J_iload_n dX6_reach_85 rfl ?_
                    refine J_iload_n dX6_reach_86 rfl ?_
                    refine J_iload dX6_reach_87 rfl ?_
                    refine J_callI3 moX5_init rfl rfl jw_ml_X6_195 jw_im_X5_init dX6_reach_89 (w_X5_init_z (d - 1) _ _ _ _ _ (by omega) hW hQ81) (by omega) (by decide) (by decide) (Nat.le_of_ble_eq_true rfl) (fun r89 V89 h89 => ?_)
                    obtain ⟨rfl, hW, hx89, hj899, hxc89⟩ := h89
                    have hkr := hkr.trans he.1 (jrt.of hx89 (jdis_of rfl))
                    have he := he.trans (hx89.sub (jsub_of rfl))
                    have hj9 := hj9.trans (jle9.of hx89 (jnot_of rfl))
                    have hjt := hjt.keep hx89 (jdis_of rfl)
                    have hfk := hfk.keep hx89 (jdis_of rfl)
                    have ha0 := ha0.mono hx89.1
                    have htlk := htlk.mono hx89.1
                    have hb_tr := hb_tr.mono hx89.1
                    have hb_sT := hb_sT.mono hx89.1
                    have hb_xxT := hb_xxT.mono hx89.1
                    have hb_yyT := hb_yyT.mono hx89.1
                    have hb_zzT := hb_zzT.mono hx89.1
                    have hbt := hbt.mono hx89.1
                    have hbrn := hbrn.mono hx89.1
                    have hx := hx89.2 _ _ hx (jnot_of rfl)
                    have hKx := hKx.mono hx89.1
                    have hO_tr := hx89.2 _ _ hO_tr (jnot_of rfl)
                    have hK_tr := hK_tr.mono hx89.1
                    have hT := hx89.2 _ _ hT (jnot_of rfl)
                    have hKt := hKt.mono hx89.1
                    have ha_ST := hx89.2 _ _ ha_ST (jnot_of rfl)
                    have ha_XT := hx89.2 _ _ ha_XT (jnot_of rfl)
                    have ha_YT := hx89.2 _ _ ha_YT (jnot_of rfl)
                    have ha_ZT := hx89.2 _ _ ha_ZT (jnot_of rfl)
                    have htl2 := hx89.2 _ _ htl2 (jnot_of rfl)
                    have d9 := hx89.2 _ _ d9 (jnot_of rfl)
                    obtain ⟨st9, qu9, dg9, b9, sn9, qz9, -, ⟨eb9, es9, eq9⟩, ⟨m0, m1, m2, m6⟩, ⟨r3, r4, r5⟩, ⟨s3, s4, s5⟩, -⟩ := jtu.tell hxc89 (by omega) (by omega)
                    obtain ⟨fsq, hOq, hKq⟩ := WT_obj hW id hj899
                    have hq0 := m0.get hOq
                    have hq1 := m1.get hOq
                    have hq2 := m2.get hOq
                    have hq6 := m6.get hOq
                    have hq3 := r3.get hOq
                    have hq4 := r4.get hOq
                    have hq5 := r5.get hOq
                    have hbq3 : jis V89 (.inl 3) st9 := ⟨_, s3, rfl⟩
                    have hbq4 : jis V89 (.inl 10) qu9 := ⟨_, s4, rfl⟩
                    have hbq5 : jis V89 (.inl 11) dg9 := ⟨_, s5, rfl⟩
                    have hRD : i4n32.toInt.toNat = (jdir x1.toInt).toNat ^ sn9.toInt.toNat := by rw [es9]; exact hRX
                    refine J_aload_n dX6_reach_92 rfl ?_
                    refine J_get jf_X6_22 dX6_reach_93 hx hF_tr ?_
                    refine Jw_callV1 (q9 := (RX5, TX5, 7)) moX5_countReached jw_ml_X6_198 jw_im_X5_countReached jw_se_X5_countReached hj899 rfl rfl dX6_reach_96 (w_X5_countReached_z (d - 1) _ q81 tr x1 sn9 b9 qz9 MT nT st9 qu9 dg9 sT xxT yyT zzT i4n32.toInt.toNat (fun _ => 0) (fun _ => 0) (fun _ => 0) ST XT YT ZT (by omega) hW  hj899 hb_tr ⟨_, hOq, hq0⟩ ⟨_, hOq, hq1⟩ ⟨_, hOq, hq2⟩ ⟨_, hOq, hq6⟩ ⟨_, hO_tr, hF_MT⟩ ⟨_, hO_tr, hF_nT⟩ ⟨_, hOq, hq3⟩ ⟨_, hOq, hq4⟩ ⟨_, hOq, hq5⟩ ⟨_, hO_tr, hF_sT⟩ ⟨_, hO_tr, hF_xxT⟩ ⟨_, hO_tr, hF_yyT⟩ ⟨_, hO_tr, hF_zzT⟩ s3 s4 s5 ha_ST ha_XT ha_YT ha_ZT (by omega) (by omega) (by omega) eb9 (by omega) (by omega) (by omega) hRD (by omega) rfl hz0 hz1 hz2) (by omega) (Nat.zero_le _) (Nat.zero_le _) (Nat.le_of_ble_eq_true rfl) (fun r96 V96 h96 => ?_)
                    obtain ⟨h96, hX96_0⟩ := h96
                    obtain ⟨hW, hx96, hr96⟩ := h96
                    have hkr := hkr.trans he.1 (jrt.call hx hF_tr hX96_0)
                    have he := he.trans (hx96.sub (jsub_of rfl))
                    have hj9 := hj9.trans (jle9.of hx96 (jnot_of rfl))
                    have hjt := hjt.keep hx96 (jdis_of rfl)
                    have hfk := hfk.keep hx96 (jdis_of rfl)
                    have ha0 := ha0.mono hx96.1
                    have htlk := htlk.mono hx96.1
                    have hb_tr := hb_tr.mono hx96.1
                    have hb_sT := hb_sT.mono hx96.1
                    have hb_xxT := hb_xxT.mono hx96.1
                    have hb_yyT := hb_yyT.mono hx96.1
                    have hb_zzT := hb_zzT.mono hx96.1
                    have hbt := hbt.mono hx96.1
                    have hbrn := hbrn.mono hx96.1
                    have hbq3 := hbq3.mono hx96.1
                    have hbq4 := hbq4.mono hx96.1
                    have hbq5 := hbq5.mono hx96.1
                    have hx := hx96.2 _ _ hx (jnot_of rfl)
                    have hKx := hKx.mono hx96.1
                    obtain ⟨fs96tr, hOfs96tr, hRfs96tr⟩ := hx96.1.keep hO_tr
                    have hKfs96tr : jokO _ (jFs 1) fs96tr := hW _ _ id hOfs96tr
                    have hFfs96tr_1 := hRfs96tr _ _ hF_sT
                    have hFfs96tr_2 := hRfs96tr _ _ hF_xxT
                    have hFfs96tr_3 := hRfs96tr _ _ hF_yyT
                    have hFfs96tr_4 := hRfs96tr _ _ hF_zzT
                    have hT := hx96.2 _ _ hT (jnot_of rfl)
                    have hKt := hKt.mono hx96.1
                    have htl2 := hx96.2 _ _ htl2 (jnot_of rfl)
                    have d9 := hx96.2 _ _ d9 (jnot_of rfl)
                    obtain ⟨y96, rfl, hl96, hh96, hP96_0⟩ := hr96
                    clear hl96 hh96
                    have hval : y96.toInt = ((jre (j : Int) x2.toInt.toNat : Nat) : Int) := by
                      rw [hP96_0, es9, hRX, hgj]
                      rfl
                    refine J_callS3 moX6_put jw_ml_X6_183 jw_st_X6_put dX6_reach_99 (w_X6_put_y (d - 1) _ _ _ _ hW d9 (by omega) (by omega) (by omega)) (by omega) (Nat.zero_le _) (Nat.zero_le _) (Nat.le_of_ble_eq_true rfl) (fun r99 V99 h99 => ?_)
                    obtain ⟨rfl, hW, hx99, hj99, hB99, G99, hA99, hp99, hc99, ho99⟩ := h99
                    obtain ⟨hN99, hv99⟩ := WT_rngI (r := (-2147483648, 2147483647)) hW id rfl hA99
                    clear hN99
                    have hkr := hkr.trans he.1 (jrt.of hx99 (jdis_of rfl))
                    have he := he.trans (hx99.sub (jsub_of rfl))
                    have hj9 := hj9.trans hj99
                    have ha0 := ha0.mono hx99.1
                    have htlk := htlk.mono hx99.1
                    have hb_tr := hb_tr.mono hx99.1
                    have hb_sT := hb_sT.mono hx99.1
                    have hb_xxT := hb_xxT.mono hx99.1
                    have hb_yyT := hb_yyT.mono hx99.1
                    have hb_zzT := hb_zzT.mono hx99.1
                    have hbt := hbt.mono hx99.1
                    have hbrn := hbrn.mono hx99.1
                    have hx := hx99.2 _ _ hx (jnot_of rfl)
                    have hKx := hKx.mono hx99.1
                    have hOfs96tr := hx99.2 _ _ hOfs96tr (jnot_of rfl)
                    have hKfs96tr := hKfs96tr.mono hx99.1
                    have hT := hx99.2 _ _ hT (jnot_of rfl)
                    have hKt := hKt.mono hx99.1
                    have htl2 := hx99.2 _ _ htl2 (jnot_of rfl)
                    have hjt := hjt.keep hx99 (jdis_of rfl)
                    have hfk := hfk.put hx99 hB99
                    · refine J_aload_n dX6_reach_102 rfl ?_
                      refine J_get jf_X6_190 dX6_reach_103 hT hF9 ?_
                      refine J_iload_n dX6_reach_106 rfl ?_
                      refine J_callS2 moX6_cell jw_ml_X6_110 jw_st_X6_cell dX6_reach_107 (w_X6_cell_x (d - 1) _ _ _ hA99 (by decide) rfl (by omega) (by omega)) (by omega) (Nat.zero_le _) (Nat.zero_le _) (Nat.le_of_ble_eq_true rfl) (fun r107 V107 h107 => ?_)
                      obtain ⟨⟨y107, rfl, hf107⟩, hE107⟩ := h107
                      have hE107 := hE107.symm
                      subst hE107
                      · exact J_ret (r := some (.int _)) dX6_reach_110 ⟨rfl, _, rfl, rfl⟩ (⟨⟨hW, he, ⟨_, rfl, (j_rng _).1, (j_rng _).2, (Or.inr ⟨by omega, by omega, Or.inr ⟨by omega, by rw [← hf107, hp99]; exact hval⟩⟩)⟩⟩, hj9, ⟨_, htl2, fun i hi => va_up_ne _ _ hi, _, va_up_self _ _ _⟩, hjt, (hup _ _ hfk hA99 (fun m hm => by by_cases e : m = x2.toInt.toNat; (subst e; exact Or.inr (by rw [hp99]; exact hval)); (rw [ho99 m e]; exact hrn m hm))), hkr⟩)
              · refine Jz_bipush (-5) dX6_reach_61 (by decide) (fun y61 he61 => ?_)
                exact J_ret (r := some (.int _)) dX6_reach_63 ⟨rfl, _, rfl, rfl⟩ (⟨⟨hW, he, ⟨_, rfl, (j_rng _).1, (j_rng _).2, (Or.inr ⟨by omega, by omega, Or.inl ⟨by omega, he61.eq⟩⟩)⟩⟩, hj9, ⟨_, htl2, fun i hi => va_up_ne _ _ hi, _, va_up_self _ _ _⟩, hjt, htf1, hkr⟩)
            · refine J_iload dX6_reach_38 rfl ?_
              refine J_iload_n dX6_reach_40 rfl ?_
              refine J_callS1 moX0_directions jw_ml_X6_187 jw_st_X0_directions dX6_reach_41 (w_X0_directions_z (d - 1) _ x1 (by omega)   ) (by omega) (Nat.zero_le _) (Nat.zero_le _) (Nat.le_of_ble_eq_true rfl) (fun r41 V41 h41 => ?_)
              obtain ⟨⟨y41, rfl, hl41, hh41, hP41_0⟩, hE41⟩ := h41
              have hE41 := hE41.symm
              subst hE41
              have hz41 : jEq y41.toInt (jdir (x1.toInt)) := hP41_0
              simp only [hP41_0] at hl41 hh41
              clear hP41_0
              have hjd := jdir_cases x1.toInt
              have hq1 : i4n32.toInt * jdir x1.toInt = jpw (jdir x1.toInt) (i5n32.toInt.toNat + 1) := by rw [hpw, Int.mul_comm]; rfl
              have hq2 := jpw_le6 (d := jdir x1.toInt) (by omega) (by omega) (n := i5n32.toInt.toNat + 1) (by omega)
              have hq3 := jpw_pos (d := jdir x1.toInt) (by omega) (i5n32.toInt.toNat + 1)
              refine Jz_imul jEq.rf hz41 dX6_reach_44 (by omega) (by omega) (fun y44 he44 => ?_)
              refine J_istore dX6_reach_45 rfl (by decide) ?_
              refine Jz_iinc 1 dX6_reach_47 rfl rfl (by decide) jEq.rf (by decide) (by omega) (by omega) (fun y47 he47 => ?_)
              refine J_goto (tgt := 32) dX6_reach_50 (by decide) ?_
              refine J.mask [true, true, true, true, true, true] ?_
              exact ih32  y44 y47  (by (try simp only [he44.eq, he47.eq, true_and, and_true]) <;> omega) (by rw [he44.eq, Int.mul_comm, hpw, he47.eq, show (i5n32.toInt + 1).toNat = i5n32.toInt.toNat + 1 by omega]; rfl) (by (try simp only [he44.eq, he47.eq, true_and, and_true]) <;> omega)
        refine J.mask [true, true, true, true, true, true] ?_
        exact L32 _  y26 y29    (by (try simp only [he26.eq, he29.eq, true_and, and_true]) <;> omega) (by rw [he26.eq, he29.eq]; rfl) (Nat.lt_succ_self _)
      · refine Jz_bipush (-2) dX6_reach_23 (by decide) (fun y23 he23 => ?_)
        exact J_ret (r := some (.int _)) dX6_reach_25 ⟨rfl, _, rfl, rfl⟩ (⟨⟨hW, he, ⟨_, rfl, (j_rng _).1, (j_rng _).2, (Or.inl ⟨by omega, he23.eq⟩)⟩⟩, hj9, ⟨_, htl2, fun i hi => va_up_ne _ _ hi, _, va_up_self _ _ _⟩, hjt, htf1, hkr⟩)
