set_option maxRecDepth 100000 in
set_option maxHeartbeats 4000000 in
theorem w_X6_forms_knew {tS : jTS} (d : Nat) (V0 : jH) (a0 : Nat) (x1 : Int32) (x2 : Int32) (fs : List Value) (tl : Nat) (f : Nat → Option Nat) (j : Nat) (A : Nat → jad) (hd : 28 ≤ d) (hW : WT V0) (ha0 : jis V0 (.inr 4) a0) (hx : V0 a0 = some (.inr (4, fs))) (h5 : fs[5]? = some (.ref tl)) (htl : V0 tl = some (.inl (5, 4, .inr (.inr (.inr (.inr f)))))) (hg : x1 = nI j) (hj : j < 4) (hf : f j = none) (hb1 : ¬ x1 < 0) (hb2 : ¬ Int32.ofNat 4 ≤ x1) (hb3 : ¬ x2 < 0) (hb4 : x2 ≤ 20) (hty4 : ∀ j : Nat, j < 4 → f j = none ∨ ∃ t : Nat, f j = some t ∧ jty V0 t (A j) (j : Int)) (hA5 : ∀ i j : Nat, i < 4 → j < 4 → i ≠ j → f i ≠ none → f j ≠ none → jsp (A i) (A j)) (hx20 : 0 ≤ x2.toInt) (hx2h : x2.toInt ≤ 20) : jTot tS mX6_forms d [.ref a0, .int x1, .int x2] V0 8 15738 (fun r V => (fun r V => (fun r V => WT V ∧ jeff [.inl 5, .inr 2, .inl 1, .inl 2, .inl 8, .inl 37, .inl 38, .inr 1, .inl 6, .inl 34, .inl 35, .inl 36, .inl 13] V0 V ∧ rN r V ∧ ∃ f2 : Nat → Option Nat, V tl = some (.inl (5, 4, .inr (.inr (.inr (.inr f2))))) ∧ (∀ i, i ≠ j → f2 i = f i) ∧ ∃ t, f2 j = some t) r V ∧ jrt a0 V0 V) r V ∧ jTL V a0) := by
  refine jTot.of_J [some (.ref a0), some (.int x1), some (.int x2), none] moX6_forms (Nat.le_of_ble_eq_true rfl) rfl ?_
  have he : jeff [.inl 5, .inr 2, .inl 1, .inl 2, .inl 8, .inl 37, .inl 38, .inr 1, .inl 6, .inl 34, .inl 35, .inl 36, .inl 13] V0 V0 := jeff.refl _ _
  have hkp : jrt a0 V0 V0 := jrt.rf
  have hKx : jokO V0 (jFs 4) fs := hW _ _ id hx
  have htlk : jis V0 (.inl 5) tl := ⟨_, htl, rfl⟩
  have hN4 : (4 : Nat) < 2 ^ 31 := by decide
  have hvt : ∀ (j b : Nat), j < 4 → f j = some b → jis V0 (.inr 2) b := by
    obtain ⟨n9, f9, h91, h92, h93, h94⟩ := WT_arrR hW id rfl htlk
    cases htl.symm.trans h91
    exact h94
  have hx0 := hx
  have h50 := h5
  have htl0 := htl
  have hjt : jTL V0 a0 := ⟨fs, tl, f, A, hx, h5, htl, hty4, hA5⟩
  have hgj : x1.toInt = (j : Int) := by rw [hg]; exact nI_toInt (by omega)
  refine J_aload_n dX6_forms_0 rfl ?_
  refine J_iload_n dX6_forms_1 rfl ?_
  refine J_iload_n dX6_forms_2 rfl ?_
  refine J_iconst (v := 0) dX6_forms_3 (by decide) ?_
  refine Jw_callV3 (q9 := (RX6, TX6, 7)) moX6_tallyFor jw_ml_X6_149 jw_im_X6_tallyFor jw_se_X6_tallyFor ha0 rfl rfl dX6_forms_4 (w_X6_tallyFor_newz (d - 1) _ _ _ _ _ fs tl f j (by omega) hW ha0 hx h5 htl hg hj hf hb1 hb2 hb3 hb4) (by omega) (by omega) (by omega) (Nat.le_of_ble_eq_true rfl) (fun r4 V4 h4 => ?_)
  obtain ⟨t, rfl, hW, hx4, hbt, htl2, hjm⟩ := h4
  · have hkp := hkp.trans he.1 (jrt.of hx4 (jdis_of rfl))
    have he := he.trans (hx4.sub (jsub_of rfl))
    have ha0 := ha0.mono hx4.1
    obtain ⟨P, hnew, hty, hnf, hfa⟩ := hjm
    obtain ⟨gv, R, sd, cd, tg, sp, ln, TK, WC, SQ, RC, BC, ⟨e1, e2, e3, e4⟩, ⟨⟨ts, hT, hF0⟩, i1, i2, i3, i4, i5⟩, ⟨r3, r4, r5, r6, r7⟩, ⟨d3, d4, d5, d6, d7⟩, htk, htal⟩ := id hty
    rw [← e1] at e2 e3 e4 htk htal
    have hF1 := i1.get hT
    have hF2 := i2.get hT
    have hF11 := i3.get hT
    have hF12 := i4.get hT
    have hF13 := i5.get hT
    have hF3 := r3.get hT
    have hF4 := r4.get hT
    have hF5 := r5.get hT
    have hF6 := r6.get hT
    have hF7 := r7.get hT
    have hKt : jokO V4 (jFs 2) ts := hW _ _ id hT
    have hbq3 : jis V4 (.inl 2) _ := ⟨_, d3, rfl⟩
    have hbq4 : jis V4 (.inl 8) _ := ⟨_, d4, rfl⟩
    have hbq5 : jis V4 (.inl 1) _ := ⟨_, d5, rfl⟩
    have hbq6 : jis V4 (.inl 37) _ := ⟨_, d6, rfl⟩
    have hbq7 : jis V4 (.inl 38) _ := ⟨_, d7, rfl⟩
    have hgq0 : 0 ≤ gv.toInt := by omega
    have hgq3 : gv.toInt ≤ 3 := by omega
    have hjt : jTL V4 a0 := jTL.fresh hx0 h50 hty4 hA5 he.1 htl2 hj hf (va_up_self _ _ _) (fun i hi => va_up_ne _ _ hi) hty hnew (jTL.frs ⟨_, htl0, rfl⟩ hnew hfa jfp.rf)
    refine J_astore_n dX6_forms_7 rfl (by decide) ?_
    refine J_aload_n dX6_forms_8 rfl ?_
    refine J_ifnull dX6_forms_9 ?_
    refine J_iload_n dX6_forms_12 rfl ?_
    refine J_bipush (v := 7) dX6_forms_13 (by decide) ?_
    refine J_icmp_le (tgt := 21) dX6_forms_15 (by decide) (fun c15 => ?_) (fun c15 => ?_)
    · refine J_aload_n dX6_forms_21 rfl ?_
      refine J_iload_n dX6_forms_22 rfl ?_
      refine Jw_callV1 (q9 := (RX4, TX4, 14)) moX4_holds jw_ml_X6_153 jw_im_X4_holds jw_se_X4_holds hbt rfl rfl dX6_forms_23 (w_X4_holds_z (d - 1) _ t x2 gv R sd cd tg sp _ _ _ _ _ ln TK WC SQ RC BC (by omega) hW hbt ⟨_, hT, hF0⟩ i1 i2 i3 i4 i5 r3 r4 r5 r6 r7 d3 d4 d5 d6 d7 hgq0 hgq3 e2 e3 e4 hx20 hx2h htk htal) (by omega) (Nat.zero_le _) (Nat.zero_le _) (Nat.le_of_ble_eq_true rfl) (fun r23 V23 h23 => ?_)
      obtain ⟨⟨hW, hx23, y23, rfl, hl23, hh23, -⟩, -, hX23_1, -, hX23_3, -, -, -⟩ := h23
      rw [e1] at hX23_1
      have hkp := hkp.trans he.1 (jrt.of hx23 (jdis_of rfl))
      have he := he.trans (hx23.sub (jsub_of rfl))
      have ha0 := ha0.mono hx23.1
      have hbt := hbt.mono hx23.1
      have htl2 := hx23.2 _ _ htl2 (jnot_of rfl)
      have hjt : jTL V23 a0 := jTL.fresh hx0 h50 hty4 hA5 he.1 htl2 hj hf (va_up_self _ _ _) (fun i hi => va_up_ne _ _ hi) hX23_1 hnew (jTL.frs ⟨_, htl0, rfl⟩ hnew hfa hX23_3)
      · refine J_if_eq (tgt := 43) dX6_forms_26 (by decide) (fun c26 => ?_) (fun c26 => ?_)
        · refine J_bipush (v := -5) dX6_forms_43 (by decide) ?_
          exact J_ret (r := some (.int _)) dX6_forms_45 ⟨rfl, _, rfl, rfl⟩ (⟨⟨⟨hW, he, rN_of _, ⟨_, htl2, fun i hi => va_up_ne _ _ hi, _, va_up_self _ _ _⟩⟩, hkp⟩, hjt⟩)
        · refine J_aload_n dX6_forms_29 rfl ?_
          obtain ⟨fs30, hO30, hK30⟩ := WT_obj hW id hbt
          obtain ⟨w30, hF30, b30, rfl, hb30⟩ := hK30.2 4 (.inr (some (.inl 8))) rfl
          refine J_get jf_X6_156 dX6_forms_30 hO30 hF30 ?_
          refine J_iload_n dX6_forms_33 rfl ?_
          refine J_callS2 moX6_cell jw_ml_X6_110 jw_st_X6_cell dX6_forms_34 (w_X6_cell (d - 1) _ _ _ hW hb30 rfl rfl) (by omega) (Nat.zero_le _) (Nat.zero_le _) (Nat.le_of_ble_eq_true rfl) (fun r34 V34 h34 => ?_)
          obtain ⟨⟨y34, rfl, hl34, hh34⟩, hE34⟩ := h34
          have hE34 := hE34.symm
          subst hE34
          refine J_sipush (v := 3000) dX6_forms_37 (by decide) ?_
          refine J_icmp_le (tgt := 46) dX6_forms_40 (by decide) (fun c40 => ?_) (fun c40 => ?_)
          · refine J_aload_n dX6_forms_46 rfl ?_
            obtain ⟨w47, hF47, b47, rfl, hb47⟩ := hK30.2 8 (.inr (some (.inl 13))) rfl
            refine J_get jf_X6_176 dX6_forms_47 hO30 hF47 ?_
            refine J_iload_n dX6_forms_50 rfl ?_
            refine J_callS2 moX6_cell jw_ml_X6_110 jw_st_X6_cell dX6_forms_51 (w_X6_cell (d - 1) _ _ _ hW hb47 rfl rfl) (by omega) (Nat.zero_le _) (Nat.zero_le _) (Nat.le_of_ble_eq_true rfl) (fun r51 V51 h51 => ?_)
            obtain ⟨⟨y51, rfl, hl51, hh51⟩, hE51⟩ := h51
            have hE51 := hE51.symm
            subst hE51
            refine J_iconst (v := -1) dX6_forms_54 (by decide) ?_
            refine J_icmp_ne (tgt := 83) dX6_forms_55 (by decide) (fun c55 => ?_) (fun c55 => ?_)
            · refine J_aload_n dX6_forms_83 rfl ?_
              refine J_get jf_X6_176 dX6_forms_84 hO30 hF47 ?_
              refine J_iload_n dX6_forms_87 rfl ?_
              refine J_callS2 moX6_cell jw_ml_X6_110 jw_st_X6_cell dX6_forms_88 (w_X6_cell (d - 1) _ _ _ hW hb47 rfl rfl) (by omega) (Nat.zero_le _) (Nat.zero_le _) (Nat.le_of_ble_eq_true rfl) (fun r88 V88 h88 => ?_)
              obtain ⟨⟨y88, rfl, hl88, hh88⟩, hE88⟩ := h88
              have hE88 := hE88.symm
              subst hE88
              exact J_ret (r := some (.int _)) dX6_forms_91 ⟨rfl, _, rfl, rfl⟩ (⟨⟨⟨hW, he, rN_of _, ⟨_, htl2, fun i hi => va_up_ne _ _ hi, _, va_up_self _ _ _⟩⟩, hkp⟩, hjt⟩)
            · refine J_aload_n dX6_forms_58 rfl ?_
              obtain ⟨fs59, hO59, hK59⟩ := WT_obj hW id ha0
              obtain ⟨w59, hF59, b59, rfl, hb59⟩ := hK59.2 2 (.inr (some (.inr 1))) rfl
              refine J_get jf_X6_22 dX6_forms_59 hO59 hF59 ?_
              refine J_iload_n dX6_forms_62 rfl ?_
              refine Jw_callV1 (q9 := (RX3, TX3, 7)) moX3_begin jw_ml_X6_52 jw_im_X3_begin jw_se_X3_begin hb59 rfl rfl dX6_forms_63 (w_X3_begin_rk0 (d - 1) _ _ _ (by omega) hW hb59 ) (by omega) (Nat.zero_le _) (Nat.zero_le _) (Nat.le_of_ble_eq_true rfl) (fun r63 V63 h63 => ?_)
              obtain ⟨⟨hW, hx63, hr63⟩, hk63⟩ := h63
              have hkp := hkp.trans he.1 (jrt.call hO59 hF59 hk63)
              have he := he.trans (hx63.sub (jsub_of rfl))
              have ha0 := ha0.mono hx63.1
              have hbt := hbt.mono hx63.1
              have hb30 := hb30.mono hx63.1
              have hb47 := hb47.mono hx63.1
              have hb59 := hb59.mono hx63.1
              have hO30 := hx63.2 _ _ hO30 (jnot_of rfl)
              have hK30 := hK30.mono hx63.1
              have hO59 := hx63.2 _ _ hO59 (jnot_of rfl)
              have hK59 := hK59.mono hx63.1
              have htl2 := hx63.2 _ _ htl2 (jnot_of rfl)
              have hjt := hjt.keep hx63 (jdis_of rfl)
              cases hr63
              · refine J_aload_n dX6_forms_66 rfl ?_
                refine J_get jf_X6_176 dX6_forms_67 hO30 hF47 ?_
                refine J_iload_n dX6_forms_70 rfl ?_
                refine J_aload_n dX6_forms_71 rfl ?_
                refine J_get jf_X6_22 dX6_forms_72 hO59 hF59 ?_
                refine J_iload_n dX6_forms_75 rfl ?_
                refine J_iconst (v := 0) dX6_forms_76 (by decide) ?_
                refine J_callSN3 moX1_countForms (host := "WalkGrounds") (List.mem_of_getElem? (i := 5) rfl) jw_st_X1_countForms dX6_forms_77 (w_X1_countForms 9 (d - 1) _ _ _ _ (by omega) hW hb59 (by decide) (by decide) (by decide)) (by omega) (Nat.zero_le _) (Nat.zero_le _) (Nat.le_of_ble_eq_true rfl) (fun r77 V77 h77 => ?_)
                obtain ⟨⟨hW, hx77, hr77⟩, hk77⟩ := h77
                have hkp := hkp.trans he.1 (jrt.call hO59 hF59 hk77)
                have he := he.trans (hx77.sub (jsub_of rfl))
                have ha0 := ha0.mono hx77.1
                have hbt := hbt.mono hx77.1
                have hb30 := hb30.mono hx77.1
                have hb47 := hb47.mono hx77.1
                have hb59 := hb59.mono hx77.1
                have hO30 := hx77.2 _ _ hO30 (jnot_of rfl)
                have hK30 := hK30.mono hx77.1
                have hO59 := hx77.2 _ _ hO59 (jnot_of rfl)
                have hK59 := hK59.mono hx77.1
                have htl2 := hx77.2 _ _ htl2 (jnot_of rfl)
                have hjt := hjt.keep hx77 (jdis_of rfl)
                obtain ⟨y77, rfl, hl77, hh77⟩ := hr77
                refine J_callS3 moX6_put jw_ml_X6_183 jw_st_X6_put dX6_forms_80 (w_X6_put (d - 1) _ _ _ _ hW hb47 rfl rfl) (by omega) (Nat.zero_le _) (Nat.zero_le _) (Nat.le_of_ble_eq_true rfl) (fun r80 V80 h80 => ?_)
                obtain ⟨hW, hx80, hr80⟩ := h80
                have hkp := hkp.trans he.1 (jrt.of hx80 (jdis_of rfl))
                have he := he.trans (hx80.sub (jsub_of rfl))
                have ha0 := ha0.mono hx80.1
                have hbt := hbt.mono hx80.1
                have hb30 := hb30.mono hx80.1
                have hb47 := hb47.mono hx80.1
                have hb59 := hb59.mono hx80.1
                have hO30 := hx80.2 _ _ hO30 (jnot_of rfl)
                have hK30 := hK30.mono hx80.1
                have hO59 := hx80.2 _ _ hO59 (jnot_of rfl)
                have hK59 := hK59.mono hx80.1
                have htl2 := hx80.2 _ _ htl2 (jnot_of rfl)
                have hjt := hjt.keep hx80 (jdis_of rfl)
                cases hr80
                refine J_aload_n dX6_forms_83 rfl ?_
                refine J_get jf_X6_176 dX6_forms_84 hO30 hF47 ?_
                refine J_iload_n dX6_forms_87 rfl ?_
                refine J_callS2 moX6_cell jw_ml_X6_110 jw_st_X6_cell dX6_forms_88 (w_X6_cell (d - 1) _ _ _ hW hb47 rfl rfl) (by omega) (Nat.zero_le _) (Nat.zero_le _) (Nat.le_of_ble_eq_true rfl) (fun r88 V88 h88 => ?_)
                obtain ⟨⟨y88, rfl, hl88, hh88⟩, hE88⟩ := h88
                have hE88 := hE88.symm
                subst hE88
                exact J_ret (r := some (.int _)) dX6_forms_91 ⟨rfl, _, rfl, rfl⟩ (⟨⟨⟨hW, he, rN_of _, ⟨_, htl2, fun i hi => va_up_ne _ _ hi, _, va_up_self _ _ _⟩⟩, hkp⟩, hjt⟩)
          · refine J_bipush (v := -5) dX6_forms_43 (by decide) ?_
            exact J_ret (r := some (.int _)) dX6_forms_45 ⟨rfl, _, rfl, rfl⟩ (⟨⟨⟨hW, he, rN_of _, ⟨_, htl2, fun i hi => va_up_ne _ _ hi, _, va_up_self _ _ _⟩⟩, hkp⟩, hjt⟩)
    · refine J_bipush (v := -2) dX6_forms_18 (by decide) ?_
      exact J_ret (r := some (.int _)) dX6_forms_20 ⟨rfl, _, rfl, rfl⟩ (⟨⟨⟨hW, he, rN_of _, ⟨_, htl2, fun i hi => va_up_ne _ _ hi, _, va_up_self _ _ _⟩⟩, hkp⟩, hjt⟩)
