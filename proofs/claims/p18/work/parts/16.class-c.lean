set_option maxRecDepth 100000 in
set_option maxHeartbeats 8000000 in
theorem w_X6_pivot_no {tS : jTS} (d : Nat) (V0 : jH) (a0 : Nat) (x1 : Int32) (x2 : Int32) (x3 : Int32) (k : Int32) (md : Nat) (tr : Nat) (f : Nat → Option Nat) (ro : Nat) (M : Int32) (g : Int32) (n : Int32) (s : Nat) (xx : Nat) (yy : Nat) (zz : Nat) (S : Nat → Int32) (X : Nat → Int32) (Y : Nat → Int32) (Z : Nat → Int32) (MT : Int32) (gT : Int32) (nT : Int32) (sT : Nat) (xxT : Nat) (yyT : Nat) (zzT : Nat) (ST : Nat → Int32) (XT : Nat → Int32) (YT : Nat → Int32) (ZT : Nat → Int32) (hd : 4 ≤ d) (hW : WT V0) (ha0 : jis V0 (.inr 4) a0) (hf_k : jfI V0 a0 4 1 k) (hr_md : jfR V0 a0 4 0 md) (hr_tr : jfR V0 a0 4 2 tr) (ha_f : V0 md = some (.inl (4, 16, .inr (.inr (.inr (.inr f)))))) (hf_M : jfI V0 ro 1 0 M) (hf_g : jfI V0 ro 1 5 g) (hf_n : jfI V0 ro 1 6 n) (hr_s : jfR V0 ro 1 1 s) (hr_xx : jfR V0 ro 1 2 xx) (hr_yy : jfR V0 ro 1 3 yy) (hr_zz : jfR V0 ro 1 4 zz) (ha_S : V0 s = some (.inl (6, 60, .inl S))) (ha_X : V0 xx = some (.inl (34, 61, .inl X))) (ha_Y : V0 yy = some (.inl (35, 61, .inl Y))) (ha_Z : V0 zz = some (.inl (36, 61, .inl Z))) (hm_ro : M.toInt = 60) (hn_ro : n.toInt ≤ 60) (hfo : f x1.toInt.toNat = some ro) (hf_MT : jfI V0 tr 1 0 MT) (hf_gT : jfI V0 tr 1 5 gT) (hf_nT : jfI V0 tr 1 6 nT) (hr_sT : jfR V0 tr 1 1 sT) (hr_xxT : jfR V0 tr 1 2 xxT) (hr_yyT : jfR V0 tr 1 3 yyT) (hr_zzT : jfR V0 tr 1 4 zzT) (ha_ST : V0 sT = some (.inl (6, 120, .inl ST))) (ha_XT : V0 xxT = some (.inl (34, 121, .inl XT))) (ha_YT : V0 yyT = some (.inl (35, 121, .inl YT))) (ha_ZT : V0 zzT = some (.inl (36, 121, .inl ZT))) (hm_tr : MT.toInt = 120) (hn_tr : nT.toInt ≤ 120) (hAB : ∀ b ∈ [ro, s, xx, yy, zz], b ∉ [tr, sT, xxT, yyT, zzT]) (hBA : ∀ b ∈ [tr, sT, xxT, yyT, zzT], b ∉ [ro, s, xx, yy, zz]) (hp0 : 0 ≤ x1.toInt) (hp1 : x1.toInt < k.toInt) (hp2 : 0 ≤ g.toInt) (hp3 : g.toInt ≤ 3) (hp4 : 0 ≤ x2.toInt) (hp5 : x2.toInt ≤ n.toInt) (hp6 : 0 ≤ x3.toInt) (hp7 : x3.toInt < jtur g.toInt) (hp8 : ∀ j : Nat, (j : Int) < n.toInt → 0 ≤ (S j).toInt ∧ (S j).toInt < jdir g.toInt) (hp9 : (XT 0).toInt = 0) (hp10 : (YT 0).toInt = 0) (hp11 : (ZT 0).toInt = 0) (hp12 : ¬ jav g.toInt (jTp g.toInt x3.toInt x2.toInt (fun q => (S q).toInt)) n.toInt.toNat) : jTot tS mX6_pivot d [.ref a0, .int x1, .int x2, .int x3] V0 0 0 (fun r V => (jPost [.inr 1, .inl 6, .inl 34, .inl 35, .inl 36] V0 (fun r _ => ∃ y : Int32, r = some (.int y) ∧ ((-2147483648) ≤ y.toInt) ∧ (y.toInt ≤ 2147483647) ∧ (y.toInt = -3))) r V ∧ (∃ (g2 n2 : Int) (S2 X2 Y2 Z2 : Nat → Int32), jrw V tr sT xxT yyT zzT 120 g2 n2 S2 X2 Y2 Z2 ∧ (X2 0).toInt = 0 ∧ (Y2 0).toInt = 0 ∧ (Z2 0).toInt = 0) ∧ jfp [tr, sT, xxT, yyT, zzT] V0 V) := by
  refine jTot.of_J [some (.ref a0), some (.int x1), some (.int x2), some (.int x3), none, none, none] moX6_pivot (Nat.le_of_ble_eq_true rfl) rfl ?_
  have hrx1 := j_rng x1
  have hrx2 := j_rng x2
  have hrx3 := j_rng x3
  have he : jeff [.inr 1, .inl 6, .inl 34, .inl 35, .inl 36] V0 V0 := jeff.refl _ _
  have hfp : jfp [tr, sT, xxT, yyT, zzT] V0 V0 := jfp.rf
  obtain ⟨fs_a0, hO_a0, hK_a0⟩ := WT_obj hW id ha0
  have hF_k := hf_k.get hO_a0
  have hrk : 0 ≤ k.toInt ∧ k.toInt ≤ 16 := jok_rngI hK_a0 rfl hF_k
  have hF_md := hr_md.get hO_a0
  obtain ⟨w_md, hFq_md, b_md, hbq_md, hb_md⟩ := hK_a0.2 0 (.inr (some (.inl 4))) rfl
  cases hF_md.symm.trans (hFq_md.trans (congrArg some hbq_md))
  have hF_tr := hr_tr.get hO_a0
  obtain ⟨w_tr, hFq_tr, b_tr, hbq_tr, hb_tr⟩ := hK_a0.2 2 (.inr (some (.inr 1))) rfl
  cases hF_tr.symm.trans (hFq_tr.trans (congrArg some hbq_tr))
  have hb_ro : jis V0 (.inr 1) ro := by obtain ⟨q1, q2, q3⟩ := hf_M; exact ⟨_, q2, rfl⟩
  obtain ⟨fs_ro, hO_ro, hK_ro⟩ := WT_obj hW id hb_ro
  have hF_M := hf_M.get hO_ro
  have hrM : 0 ≤ M.toInt ∧ M.toInt ≤ 120 := jok_rngI hK_ro rfl hF_M
  have hF_g := hf_g.get hO_ro
  have hrg : (-2147483648) ≤ g.toInt ∧ g.toInt ≤ 2147483647 := jok_rngI hK_ro rfl hF_g
  have hF_n := hf_n.get hO_ro
  have hrn : 0 ≤ n.toInt ∧ n.toInt ≤ 120 := jok_rngI hK_ro rfl hF_n
  have hF_s := hr_s.get hO_ro
  have hb_s : jis V0 (.inl 6) s := ⟨_, ha_S, rfl⟩
  obtain ⟨hN_S, hv_S⟩ := WT_rngI (r := (-2147483648, 2147483647)) hW id rfl ha_S
  clear hN_S
  have hF_xx := hr_xx.get hO_ro
  have hb_xx : jis V0 (.inl 34) xx := ⟨_, ha_X, rfl⟩
  obtain ⟨hN_X, hv_X⟩ := WT_rngI (r := (-2147483648, 2147483647)) hW id rfl ha_X
  clear hN_X
  have hF_yy := hr_yy.get hO_ro
  have hb_yy : jis V0 (.inl 35) yy := ⟨_, ha_Y, rfl⟩
  obtain ⟨hN_Y, hv_Y⟩ := WT_rngI (r := (-2147483648, 2147483647)) hW id rfl ha_Y
  clear hN_Y
  have hF_zz := hr_zz.get hO_ro
  have hb_zz : jis V0 (.inl 36) zz := ⟨_, ha_Z, rfl⟩
  obtain ⟨hN_Z, hv_Z⟩ := WT_rngI (r := (-2147483648, 2147483647)) hW id rfl ha_Z
  clear hN_Z
  obtain ⟨fs_tr, hO_tr, hK_tr⟩ := WT_obj hW id hb_tr
  have hF_MT := hf_MT.get hO_tr
  have hrMT : 0 ≤ MT.toInt ∧ MT.toInt ≤ 120 := jok_rngI hK_tr rfl hF_MT
  have hF_gT := hf_gT.get hO_tr
  have hrgT : (-2147483648) ≤ gT.toInt ∧ gT.toInt ≤ 2147483647 := jok_rngI hK_tr rfl hF_gT
  have hF_nT := hf_nT.get hO_tr
  have hrnT : 0 ≤ nT.toInt ∧ nT.toInt ≤ 120 := jok_rngI hK_tr rfl hF_nT
  have hF_sT := hr_sT.get hO_tr
  have hb_sT : jis V0 (.inl 6) sT := ⟨_, ha_ST, rfl⟩
  obtain ⟨hN_ST, hv_ST⟩ := WT_rngI (r := (-2147483648, 2147483647)) hW id rfl ha_ST
  clear hN_ST
  have hF_xxT := hr_xxT.get hO_tr
  have hb_xxT : jis V0 (.inl 34) xxT := ⟨_, ha_XT, rfl⟩
  obtain ⟨hN_XT, hv_XT⟩ := WT_rngI (r := (-2147483648, 2147483647)) hW id rfl ha_XT
  clear hN_XT
  have hF_yyT := hr_yyT.get hO_tr
  have hb_yyT : jis V0 (.inl 35) yyT := ⟨_, ha_YT, rfl⟩
  obtain ⟨hN_YT, hv_YT⟩ := WT_rngI (r := (-2147483648, 2147483647)) hW id rfl ha_YT
  clear hN_YT
  have hF_zzT := hr_zzT.get hO_tr
  have hb_zzT : jis V0 (.inl 36) zzT := ⟨_, ha_ZT, rfl⟩
  obtain ⟨hN_ZT, hv_ZT⟩ := WT_rngI (r := (-2147483648, 2147483647)) hW id rfl ha_ZT
  clear hN_ZT
  refine J_aload_n dX6_pivot_0 rfl ?_
  refine J_iload_n dX6_pivot_1 rfl ?_
  refine Jw_callV1 (q9 := (RX6, TX6, 7)) moX6_rowOf jw_ml_X6_55 jw_im_X6_rowOf jw_se_X6_rowOf ha0 rfl rfl dX6_pivot_2 (w_X6_rowOf_in (d - 1) _ a0 x1 hO_a0 hF_md hF_k ha_f (by omega) (by omega) (by omega) hfo) (by omega) (Nat.zero_le _) (Nat.zero_le _) (Nat.le_of_ble_eq_true rfl) (fun r2 V2 h2 => ?_)
  obtain ⟨rfl, hE2⟩ := h2
  have hE2 := hE2.symm
  subst hE2
  · refine J_astore dX6_pivot_5 rfl (by decide) ?_
    refine J_aload dX6_pivot_7 rfl ?_
    refine J_ifnull dX6_pivot_9 ?_
    refine J_iload_n dX6_pivot_12 rfl ?_
    refine Jz_if_lt (tgt := 37) jEq.rf dX6_pivot_13 (by decide) (fun c13 => ?_) (fun c13 => ?_)
    · exact False.elim (by omega)
    · refine J_iload_n dX6_pivot_16 rfl ?_
      refine J_aload dX6_pivot_17 rfl ?_
      refine J_get jf_X6_69 dX6_pivot_19 hO_ro hF_n ?_
      refine Jz_icmp_gt (tgt := 37) jEq.rf jEq.rf dX6_pivot_22 (by decide) (fun c22 => ?_) (fun c22 => ?_)
      · exact False.elim (by omega)
      · refine J_aload dX6_pivot_25 rfl ?_
        refine J_get jf_X6_59 dX6_pivot_27 hO_ro hF_g ?_
        refine J_iload_n dX6_pivot_30 rfl ?_
        refine J_callS2 moX0_isTurn jw_ml_X6_78 jw_st_X0_isTurn dX6_pivot_31 (w_X0_isTurn_z (d - 1) _ g x3 (by omega)   (by omega) (by omega)) (by omega) (Nat.zero_le _) (Nat.zero_le _) (Nat.le_of_ble_eq_true rfl) (fun r31 V31 h31 => ?_)
        obtain ⟨⟨y31, rfl, hl31, hh31, hP31_0⟩, hE31⟩ := h31
        have hE31 := hE31.symm
        subst hE31
        refine Jz_if_ne (tgt := 40) jEq.rf dX6_pivot_34 (by decide) (fun c34 => ?_) (fun c34 => ?_)
        · refine J_aload_n dX6_pivot_40 rfl ?_
          refine J_get jf_X6_22 dX6_pivot_41 hO_a0 hF_tr ?_
          refine J_aload dX6_pivot_44 rfl ?_
          refine J_get jf_X6_59 dX6_pivot_46 hO_ro hF_g ?_
          have hz0 := hp9
          have hz1 := hp10
          have hz2 := hp11
          have hdc := jdir_cases g.toInt
          have htc := jtur_cases g.toInt
          refine Jw_callV1 (q9 := (RX3, TX3, 7)) moX3_begin jw_ml_X6_52 jw_im_X3_begin jw_se_X3_begin hb_tr rfl rfl dX6_pivot_49 (w_X3_begin_z (d - 1) _ tr g MT (by omega) hW  hb_tr ⟨_, hO_tr, hF_MT⟩) (by omega) (Nat.zero_le _) (Nat.zero_le _) (Nat.le_of_ble_eq_true rfl) (fun r49 V49 h49 => ?_)
          obtain ⟨h49, hX49_0, ⟨fv49_0, hfv49_0, hfp49_0⟩, ⟨fv49_1, hfv49_1, hfp49_1⟩, ⟨fv49_2, hfv49_2, hfp49_2⟩⟩ := h49
          obtain ⟨hW, hx49, hr49⟩ := h49
          have he := he.trans (hx49.sub (jsub_of rfl))
          have hfp := hfp.trans (hX49_0.sub (fun b hb => by simp only [List.mem_cons, List.not_mem_nil, or_false] at hb ⊢; first | (rcases hb with h9 <;> simp only [h9, true_or, or_true]) | omega))
          have ha0 := ha0.mono hx49.1
          have hb_md := hb_md.mono hx49.1
          have hb_tr := hb_tr.mono hx49.1
          have hb_ro := hb_ro.mono hx49.1
          have hb_s := hb_s.mono hx49.1
          have hb_xx := hb_xx.mono hx49.1
          have hb_yy := hb_yy.mono hx49.1
          have hb_zz := hb_zz.mono hx49.1
          have hb_sT := hb_sT.mono hx49.1
          have hb_xxT := hb_xxT.mono hx49.1
          have hb_yyT := hb_yyT.mono hx49.1
          have hb_zzT := hb_zzT.mono hx49.1
          have hO_a0 := hx49.2 _ _ hO_a0 (jnot_of rfl)
          have hK_a0 := hK_a0.mono hx49.1
          have hO_ro := (hX49_0 ro (fun q => hAB ro List.mem_cons_self (List.mem_cons.mpr (Or.inl (List.mem_singleton.mp q))))).trans hO_ro
          have hK_ro := hK_ro.mono hx49.1
          obtain ⟨fs49tr, hOfs49tr, hRfs49tr⟩ := hx49.1.keep hO_tr
          have hKfs49tr : jokO _ (jFs 1) fs49tr := hW _ _ id hOfs49tr
          have hFfs49tr_1 := hRfs49tr _ _ hF_sT
          have hFfs49tr_2 := hRfs49tr _ _ hF_xxT
          have hFfs49tr_3 := hRfs49tr _ _ hF_yyT
          have hFfs49tr_4 := hRfs49tr _ _ hF_zzT
          have ha_S := (hX49_0 s (fun q => hAB s (List.mem_cons_of_mem _ List.mem_cons_self) (List.mem_cons.mpr (Or.inl (List.mem_singleton.mp q))))).trans ha_S
          have ha_X := (hX49_0 xx (fun q => hAB xx (List.mem_cons_of_mem _ (List.mem_cons_of_mem _ List.mem_cons_self)) (List.mem_cons.mpr (Or.inl (List.mem_singleton.mp q))))).trans ha_X
          have ha_Y := (hX49_0 yy (fun q => hAB yy (List.mem_cons_of_mem _ (List.mem_cons_of_mem _ (List.mem_cons_of_mem _ List.mem_cons_self))) (List.mem_cons.mpr (Or.inl (List.mem_singleton.mp q))))).trans ha_Y
          have ha_Z := (hX49_0 zz (fun q => hAB zz (List.mem_cons_of_mem _ (List.mem_cons_of_mem _ (List.mem_cons_of_mem _ (List.mem_cons_of_mem _ List.mem_cons_self)))) (List.mem_cons.mpr (Or.inl (List.mem_singleton.mp q))))).trans ha_Z
          have ha_ST := hx49.2 _ _ ha_ST (jnot_of rfl)
          have ha_XT := hx49.2 _ _ ha_XT (jnot_of rfl)
          have ha_YT := hx49.2 _ _ ha_YT (jnot_of rfl)
          have ha_ZT := hx49.2 _ _ ha_ZT (jnot_of rfl)
          cases hr49
          have hFv49_0 := hfv49_0.get hOfs49tr
          have hsb49_0 : MT = fv49_0 := (jI_inj.mp hfp49_0).symm
          subst hsb49_0
          have hFv49_1 := hfv49_1.get hOfs49tr
          have hsb49_1 : g = fv49_1 := (jI_inj.mp hfp49_1).symm
          subst hsb49_1
          have hFv49_2 := hfv49_2.get hOfs49tr
          have hzf49_2 : jEq fv49_2.toInt (0) := hfp49_2
          clear hfp49_2
          refine Jz_iconst 0 dX6_pivot_52 (by decide) (fun y52 he52 => ?_)
          refine J_istore dX6_pivot_53 rfl (by decide) ?_
          have L55 : ∀ (N : Nat) (V : jH) (i5n55 : Int32) (gs55tr : List Value) (g6n55 : Int32) (F6n55 : Nat → Int32) (F34n55 : Nat → Int32) (F35n55 : Nat → Int32) (F36n55 : Nat → Int32), WT V → jeff [.inr 1, .inl 6, .inl 34, .inl 35, .inl 36] V0 V → (jis V (.inr 4) a0) → (jis V (.inl 4) md) → (jis V (.inr 1) tr) → (jis V (.inr 1) ro) → (jis V (.inl 6) s) → (jis V (.inl 34) xx) → (jis V (.inl 35) yy) → (jis V (.inl 36) zz) → (jis V (.inl 6) sT) → (jis V (.inl 34) xxT) → (jis V (.inl 35) yyT) → (jis V (.inl 36) zzT) → (jfp [tr, sT, xxT, yyT, zzT] V0 V) → (V a0 = some (.inr (4, fs_a0))) → (jokO V (jFs 4) fs_a0) → (V ro = some (.inr (1, fs_ro))) → (jokO V (jFs 1) fs_ro) → (V tr = some (.inr (1, gs55tr))) → (gs55tr[1]? = some (.ref sT)) → (gs55tr[2]? = some (.ref xxT)) → (gs55tr[3]? = some (.ref yyT)) → (gs55tr[4]? = some (.ref zzT)) → (gs55tr[0]? = some (.int MT)) → (gs55tr[5]? = some (.int g)) → (gs55tr[6]? = some (.int g6n55)) → (V sT = some (.inl (6, 120, .inl F6n55))) → (V xxT = some (.inl (34, 121, .inl F34n55))) → (V yyT = some (.inl (35, 121, .inl F35n55))) → (V zzT = some (.inl (36, 121, .inl F36n55))) → (V s = some (.inl (6, 60, .inl S))) → (V xx = some (.inl (34, 61, .inl X))) → (V yy = some (.inl (35, 61, .inl Y))) → (V zz = some (.inl (36, 61, .inl Z))) → (0 ≤ i5n55.toInt ∧ i5n55.toInt ≤ n.toInt) → (g6n55.toInt = i5n55.toInt) → (∀ j : Nat, (j : Int) < g6n55.toInt → (F6n55 j).toInt = (jTp g.toInt x3.toInt x2.toInt (fun q => (S q).toInt)) j) → (jrv g.toInt (jTp g.toInt x3.toInt x2.toInt (fun q => (S q).toInt)) g6n55.toInt.toNat F34n55 F35n55 F36n55) → (jav g.toInt (jTp g.toInt x3.toInt x2.toInt (fun q => (S q).toInt)) g6n55.toInt.toNat) → (300 - i5n55.toInt).toNat < N → J tS mX6_pivot d 55 [some (.ref a0), some (.int x1), some (.int x2), some (.int x3), some (.ref ro), some (.int i5n55), none] [] V 0 0 (fun r V => (jPost [.inr 1, .inl 6, .inl 34, .inl 35, .inl 36] V0 (fun r _ => ∃ y : Int32, r = some (.int y) ∧ ((-2147483648) ≤ y.toInt) ∧ (y.toInt ≤ 2147483647) ∧ (y.toInt = -3))) r V ∧ (∃ (g2 n2 : Int) (S2 X2 Y2 Z2 : Nat → Int32), jrw V tr sT xxT yyT zzT 120 g2 n2 S2 X2 Y2 Z2 ∧ (X2 0).toInt = 0 ∧ (Y2 0).toInt = 0 ∧ (Z2 0).toInt = 0) ∧ jfp [tr, sT, xxT, yyT, zzT] V0 V) := by
            intro N
            induction N with
            | zero => intro V i5n55 gs55tr g6n55 F6n55 F34n55 F35n55 F36n55 hW he ha0 hb_md hb_tr hb_ro hb_s hb_xx hb_yy hb_zz hb_sT hb_xxT hb_yyT hb_zzT hfp hO_a0 hK_a0 hO_ro hK_ro hOgs55tr hFgs55tr_1 hFgs55tr_2 hFgs55tr_3 hFgs55tr_4 hFgs55tr_0 hFgs55tr_5 hFgs55tr_6 hAF6n55 hAF34n55 hAF35n55 hAF36n55 ha_S ha_X ha_Y ha_Z hi htn hts hjv hav hm; exact absurd hm (Nat.not_lt_zero _)
            | succ N ih =>
              intro V i5n55 gs55tr g6n55 F6n55 F34n55 F35n55 F36n55 hW he ha0 hb_md hb_tr hb_ro hb_s hb_xx hb_yy hb_zz hb_sT hb_xxT hb_yyT hb_zzT hfp hO_a0 hK_a0 hO_ro hK_ro hOgs55tr hFgs55tr_1 hFgs55tr_2 hFgs55tr_3 hFgs55tr_4 hFgs55tr_0 hFgs55tr_5 hFgs55tr_6 hAF6n55 hAF34n55 hAF35n55 hAF36n55 ha_S ha_X ha_Y ha_Z hi htn hts hjv hav hm
              have ih55 := ih
              have hri5 := j_rng i5n55
              have hKgs55tr : jokO V (jFs 1) gs55tr := hW _ _ id hOgs55tr
              have hrgg6n55 : 0 ≤ g6n55.toInt ∧ g6n55.toInt ≤ 120 := jok_rngI hKgs55tr rfl hFgs55tr_6
              obtain ⟨hNF6n55, hvF6n55⟩ := WT_rngI (r := ((-2147483648), 2147483647)) hW id rfl hAF6n55
              clear hNF6n55
              obtain ⟨hNF34n55, hvF34n55⟩ := WT_rngI (r := ((-2147483648), 2147483647)) hW id rfl hAF34n55
              clear hNF34n55
              obtain ⟨hNF35n55, hvF35n55⟩ := WT_rngI (r := ((-2147483648), 2147483647)) hW id rfl hAF35n55
              clear hNF35n55
              obtain ⟨hNF36n55, hvF36n55⟩ := WT_rngI (r := ((-2147483648), 2147483647)) hW id rfl hAF36n55
              clear hNF36n55
              refine J_iload dX6_pivot_55 rfl ?_
              refine J_aload dX6_pivot_57 rfl ?_
              refine J_get jf_X6_69 dX6_pivot_59 hO_ro hF_n ?_
              refine Jz_icmp_ge (tgt := 115) jEq.rf jEq.rf dX6_pivot_62 (by decide) (fun c62 => ?_) (fun c62 => ?_)
              · exact False.elim (hp12 (by rw [show n.toInt.toNat = g6n55.toInt.toNat by omega]; exact hav))
              · refine J_aload dX6_pivot_65 rfl ?_
                refine J_iload dX6_pivot_67 rfl ?_
                refine Jw_callV1 (q9 := (RX3, TX3, 7)) moX3_direction jw_ml_X6_81 jw_im_X3_direction jw_se_X3_direction hb_ro rfl rfl dX6_pivot_69 (w_X3_direction_z (d - 1) _ ro i5n55 s S (by omega) hW  hb_ro ⟨_, hO_ro, hF_s⟩ ha_S (by omega) (by omega) (by omega)) (by omega) (Nat.zero_le _) (Nat.zero_le _) (Nat.le_of_ble_eq_true rfl) (fun r69 V69 h69 => ?_)
                obtain ⟨⟨y69, rfl, hl69, hh69, hP69_0⟩, hE69⟩ := h69
                have hE69 := hE69.symm
                subst hE69
                clear hl69 hh69
                have hz69 : jEq y69.toInt ((S (i5n55.toInt).toNat).toInt) := hP69_0
                clear hP69_0
                have hsd := hp8 i5n55.toInt.toNat (by omega)
                refine J_istore dX6_pivot_72 rfl (by decide) ?_
                refine J_aload_n dX6_pivot_74 rfl ?_
                refine J_get jf_X6_22 dX6_pivot_75 hO_a0 hF_tr ?_
                refine J_iload dX6_pivot_78 rfl ?_
                refine J_iload_n dX6_pivot_80 rfl ?_
                refine Jz_icmp_ge (tgt := 89) jEq.rf jEq.rf dX6_pivot_81 (by decide) (fun c81 => ?_) (fun c81 => ?_)
                · refine J_aload dX6_pivot_89 rfl ?_
                  refine J_get jf_X6_59 dX6_pivot_91 hO_ro hF_g ?_
                  refine J_iload_n dX6_pivot_94 rfl ?_
                  refine J_iload dX6_pivot_95 rfl ?_
                  refine J_callS3 moX0_turned jw_ml_X6_85 jw_st_X0_turned dX6_pivot_97 (w_X0_turned_z (d - 1) _ g x3 y69 (by omega)   (by omega) (by omega) (by omega) (by omega) (by (try simp only [hz69.eq, true_and, and_true]) <;> omega) (by (try simp only [hz69.eq, true_and, and_true]) <;> omega)) (by omega) (Nat.zero_le _) (Nat.zero_le _) (Nat.le_of_ble_eq_true rfl) (fun r97 V97 h97 => ?_)
                  obtain ⟨⟨y97, rfl, hl97, hh97, hP97_0⟩, hE97⟩ := h97
                  have hE97 := hE97.symm
                  subst hE97
                  clear hl97 hh97
                  try simp only [hz69.eq] at hP97_0
                  have hz97 : jEq y97.toInt (jtn (g.toInt) (x3.toInt) ((S (i5n55.toInt).toNat).toInt)) := hP97_0
                  clear hP97_0
                  have htb := jtn_b (g := g.toInt) (t := x3.toInt) (d := (S i5n55.toInt.toNat).toInt) (by omega) (by omega) (by omega) (by omega) (by omega) (by omega)
                  have htp : (jTp g.toInt x3.toInt x2.toInt (fun q => (S q).toInt)) g6n55.toInt.toNat = y97.toInt := (by unfold jTp; first | (rw [if_pos (by omega), htn]; exact (hz97.eq).symm) | (rw [if_neg (by omega), htn]; exact (hz97.eq).symm))
                  have hbx := hjv.b g6n55.toInt.toNat (Nat.le_refl _)
                  by_cases hcc : jav g.toInt (jTp g.toInt x3.toInt x2.toInt (fun q => (S q).toInt)) (g6n55.toInt.toNat + 1)
                  · refine Jw_callV1 (q9 := (RX3, TX3, 7)) moX3_lay jw_ml_X6_72 jw_im_X3_lay jw_se_X3_lay hb_tr rfl rfl dX6_pivot_100 (w_X3_lay_yes (d - 1) _ tr y97 MT g g6n55 sT xxT yyT zzT F6n55 F34n55 F35n55 F36n55 (by omega) hW  hb_tr ⟨_, hOgs55tr, hFgs55tr_0⟩ ⟨_, hOgs55tr, hFgs55tr_5⟩ ⟨_, hOgs55tr, hFgs55tr_6⟩ ⟨_, hOgs55tr, hFgs55tr_1⟩ ⟨_, hOgs55tr, hFgs55tr_2⟩ ⟨_, hOgs55tr, hFgs55tr_3⟩ ⟨_, hOgs55tr, hFgs55tr_4⟩ hAF6n55 hAF34n55 hAF35n55 hAF36n55 (by omega) (by omega) (by omega) (by omega) (by omega) (by first | omega | (simp only [hz97.eq]; omega)) (by first | omega | (simp only [hz97.eq]; omega)) (by omega) (by omega) (by omega) (by omega) (by omega) (by omega) (by omega) (fun j hj q => (jav_succ.mp hcc).2 j (by omega) ((hjv.next (by omega)).mpr (by rw [htp]; exact q)))) (by omega) (Nat.zero_le _) (Nat.zero_le _) (Nat.le_of_ble_eq_true rfl) (fun r100 V100 h100 => ?_)
                    obtain ⟨h100, hX100_0, hX100_1, hX100_2, hX100_3, hX100_4, ⟨fv100_0, hfv100_0, hfp100_0⟩, ⟨fv100_1, hfv100_1, hfp100_1⟩, ⟨fv100_2, hfv100_2, hfp100_2⟩⟩ := h100
                    obtain ⟨hW, hx100, hr100⟩ := h100
                    have he := he.trans (hx100.sub (jsub_of rfl))
                    have hfp := hfp.trans (hX100_4.sub (fun b hb => by simp only [List.mem_cons, List.not_mem_nil, or_false] at hb ⊢; first | (rcases hb with h9 | h9 | h9 | h9 | h9 <;> simp only [h9, true_or, or_true]) | omega))
                    have ha0 := ha0.mono hx100.1
                    have hb_md := hb_md.mono hx100.1
                    have hb_tr := hb_tr.mono hx100.1
                    have hb_ro := hb_ro.mono hx100.1
                    have hb_s := hb_s.mono hx100.1
                    have hb_xx := hb_xx.mono hx100.1
                    have hb_yy := hb_yy.mono hx100.1
                    have hb_zz := hb_zz.mono hx100.1
                    have hb_sT := hb_sT.mono hx100.1
                    have hb_xxT := hb_xxT.mono hx100.1
                    have hb_yyT := hb_yyT.mono hx100.1
                    have hb_zzT := hb_zzT.mono hx100.1
                    have hO_a0 := hx100.2 _ _ hO_a0 (jnot_of rfl)
                    have hK_a0 := hK_a0.mono hx100.1
                    have hO_ro := (hX100_4 ro (hAB ro List.mem_cons_self)).trans hO_ro
                    have hK_ro := hK_ro.mono hx100.1
                    obtain ⟨fs100tr, hOfs100tr, hRfs100tr⟩ := hx100.1.keep hOgs55tr
                    have hKfs100tr : jokO _ (jFs 1) fs100tr := hW _ _ id hOfs100tr
                    have hFfs100tr_1 := hRfs100tr _ _ hFgs55tr_1
                    have hFfs100tr_2 := hRfs100tr _ _ hFgs55tr_2
                    have hFfs100tr_3 := hRfs100tr _ _ hFgs55tr_3
                    have hFfs100tr_4 := hRfs100tr _ _ hFgs55tr_4
                    have ha_S := (hX100_4 s (hAB s (List.mem_cons_of_mem _ List.mem_cons_self))).trans ha_S
                    have ha_X := (hX100_4 xx (hAB xx (List.mem_cons_of_mem _ (List.mem_cons_of_mem _ List.mem_cons_self)))).trans ha_X
                    have ha_Y := (hX100_4 yy (hAB yy (List.mem_cons_of_mem _ (List.mem_cons_of_mem _ (List.mem_cons_of_mem _ List.mem_cons_self))))).trans ha_Y
                    have ha_Z := (hX100_4 zz (hAB zz (List.mem_cons_of_mem _ (List.mem_cons_of_mem _ (List.mem_cons_of_mem _ (List.mem_cons_of_mem _ List.mem_cons_self)))))).trans ha_Z
                    obtain ⟨y100, rfl, hl100, hh100, hP100_0⟩ := hr100
                    try simp only [hz97.eq] at hP100_0
                    have hFv100_0 := hfv100_0.get hOfs100tr
                    try simp only [hz97.eq] at hfp100_0
                    have hzf100_0 : jEq fv100_0.toInt ((g6n55.toInt) + 1) := hfp100_0
                    clear hfp100_0
                    have hFv100_1 := hfv100_1.get hOfs100tr
                    try simp only [hz97.eq] at hfp100_1
                    have hsb100_1 : MT = fv100_1 := (jI_inj.mp hfp100_1).symm
                    subst hsb100_1
                    have hFv100_2 := hfv100_2.get hOfs100tr
                    try simp only [hz97.eq] at hfp100_2
                    have hsb100_2 : g = fv100_2 := (jI_inj.mp hfp100_2).symm
                    subst hsb100_2
                    obtain ⟨S100, hS100, hSn100, hSo100⟩ := hX100_0
                    obtain ⟨X100, hXa100, hXn100, hXo100⟩ := hX100_1
                    obtain ⟨Y100, hYa100, hYn100, hYo100⟩ := hX100_2
                    obtain ⟨Z100, hZa100, hZn100, hZo100⟩ := hX100_3
                    obtain ⟨hN_S100, hv_S100⟩ := WT_rngI (r := ((-2147483648), 2147483647)) hW id rfl hS100
                    clear hN_S100
                    obtain ⟨hN_X100, hv_X100⟩ := WT_rngI (r := ((-2147483648), 2147483647)) hW id rfl hXa100
                    clear hN_X100
                    obtain ⟨hN_Y100, hv_Y100⟩ := WT_rngI (r := ((-2147483648), 2147483647)) hW id rfl hYa100
                    clear hN_Y100
                    obtain ⟨hN_Z100, hv_Z100⟩ := WT_rngI (r := ((-2147483648), 2147483647)) hW id rfl hZa100
                    clear hN_Z100
                    refine Jz_if_ne (tgt := 109) jEq.rf dX6_pivot_103 (by decide) (fun c103 => ?_) (fun c103 => ?_)
                    · refine Jz_iinc 1 dX6_pivot_109 rfl rfl (by decide) jEq.rf (by decide) (by omega) (by omega) (fun y109 he109 => ?_)
                      refine J_goto (tgt := 55) dX6_pivot_112 (by decide) ?_
                      refine J.mask [true, true, true, true, true, true, false] ?_
                      exact ih55 _ y109 fs100tr fv100_0 S100 X100 Y100 Z100 hW he ha0 hb_md hb_tr hb_ro hb_s hb_xx hb_yy hb_zz hb_sT hb_xxT hb_yyT hb_zzT hfp hO_a0 hK_a0 hO_ro hK_ro hOfs100tr hFfs100tr_1 hFfs100tr_2 hFfs100tr_3 hFfs100tr_4 hFv100_1 hFv100_2 hFv100_0 hS100 hXa100 hYa100 hZa100 ha_S ha_X ha_Y ha_Z (by (try simp only [he109.eq, hzf100_0.eq, true_and, and_true]) <;> omega) (by (try simp only [he109.eq, hzf100_0.eq, true_and, and_true]) <;> omega) (fun j hj => by rw [hzf100_0.eq] at hj; by_cases c : (j : Int) = g6n55.toInt; (have e : j = g6n55.toInt.toNat := by omega); subst e; rw [hSn100, htp]; rw [hSo100 j (by omega)]; exact hts j (by omega)) (by rw [hzf100_0.eq, show (g6n55.toInt + 1).toNat = g6n55.toInt.toNat + 1 by omega]; exact hjv.lay (by rw [hXn100, htp]) (by rw [hYn100, htp]) (by rw [hZn100, htp]) hXo100 hYo100 hZo100) (by rw [hzf100_0.eq, show (g6n55.toInt + 1).toNat = g6n55.toInt.toNat + 1 by omega]; exact hcc) (by (try simp only [he109.eq, hzf100_0.eq, true_and, and_true]) <;> omega)
                    · exact False.elim (by omega)
                  · refine Jw_callV1 (q9 := (RX3, TX3, 7)) moX3_lay jw_ml_X6_72 jw_im_X3_lay jw_se_X3_lay hb_tr rfl rfl dX6_pivot_100 (w_X3_lay_no (d - 1) _ tr y97 MT g g6n55 sT xxT yyT zzT F6n55 F34n55 F35n55 F36n55 (by omega) hW  hb_tr ⟨_, hOgs55tr, hFgs55tr_0⟩ ⟨_, hOgs55tr, hFgs55tr_5⟩ ⟨_, hOgs55tr, hFgs55tr_6⟩ ⟨_, hOgs55tr, hFgs55tr_1⟩ ⟨_, hOgs55tr, hFgs55tr_2⟩ ⟨_, hOgs55tr, hFgs55tr_3⟩ ⟨_, hOgs55tr, hFgs55tr_4⟩ hAF6n55 hAF34n55 hAF35n55 hAF36n55 (by omega) (by omega) (by omega) (by omega) (by omega) (by first | omega | (simp only [hz97.eq]; omega)) (by first | omega | (simp only [hz97.eq]; omega)) (by omega) (by omega) (by omega) (by omega) (by omega) (by omega) (Or.inr (by obtain ⟨i, h1, h2⟩ := jav_not hav hcc; exact ⟨i, by omega, by have q := (hjv.next h1).mp h2; rw [htp] at q; exact q⟩))) (by omega) (Nat.zero_le _) (Nat.zero_le _) (Nat.le_of_ble_eq_true rfl) (fun r100 V100 h100 => ?_)
                    obtain ⟨⟨y100, rfl, hl100, hh100, hP100_0⟩, hE100⟩ := h100
                    have hE100 := hE100.symm
                    subst hE100
                    try simp only [hz97.eq] at hP100_0
                    refine Jz_if_ne (tgt := 109) jEq.rf dX6_pivot_103 (by decide) (fun c103 => ?_) (fun c103 => ?_)
                    · exact False.elim (by omega)
                    · refine Jz_bipush (-3) dX6_pivot_106 (by decide) (fun y106 he106 => ?_)
                      exact J_ret (r := some (.int _)) dX6_pivot_108 ⟨rfl, _, rfl, rfl⟩ (⟨⟨hW, he, ⟨_, rfl, (j_rng _).1, (j_rng _).2, (by (try simp only [he106.eq, true_and, and_true]) <;> omega)⟩⟩, ⟨_, _, _, _, _, _, ⟨⟨_, ⟨_, hOgs55tr, hFgs55tr_0⟩, hm_tr⟩, ⟨_, ⟨_, hOgs55tr, hFgs55tr_5⟩, rfl⟩, ⟨_, ⟨_, hOgs55tr, hFgs55tr_6⟩, rfl⟩, ⟨_, hOgs55tr, hFgs55tr_1⟩, ⟨_, hOgs55tr, hFgs55tr_2⟩, ⟨_, hOgs55tr, hFgs55tr_3⟩, ⟨_, hOgs55tr, hFgs55tr_4⟩, hAF6n55, hAF34n55, hAF35n55, hAF36n55⟩, (hjv 0 (Nat.zero_le _))⟩, hfp⟩)
                · refine J_iload dX6_pivot_84 rfl ?_
                  refine J_goto (tgt := 100) dX6_pivot_86 (by decide) ?_
                  have htp : (jTp g.toInt x3.toInt x2.toInt (fun q => (S q).toInt)) g6n55.toInt.toNat = y69.toInt := (by unfold jTp; first | (rw [if_pos (by omega), htn]; exact (hz69.eq).symm) | (rw [if_neg (by omega), htn]; exact (hz69.eq).symm))
                  have hbx := hjv.b g6n55.toInt.toNat (Nat.le_refl _)
                  by_cases hcc : jav g.toInt (jTp g.toInt x3.toInt x2.toInt (fun q => (S q).toInt)) (g6n55.toInt.toNat + 1)
                  · refine Jw_callV1 (q9 := (RX3, TX3, 7)) moX3_lay jw_ml_X6_72 jw_im_X3_lay jw_se_X3_lay hb_tr rfl rfl dX6_pivot_100 (w_X3_lay_yes (d - 1) _ tr y69 MT g g6n55 sT xxT yyT zzT F6n55 F34n55 F35n55 F36n55 (by omega) hW  hb_tr ⟨_, hOgs55tr, hFgs55tr_0⟩ ⟨_, hOgs55tr, hFgs55tr_5⟩ ⟨_, hOgs55tr, hFgs55tr_6⟩ ⟨_, hOgs55tr, hFgs55tr_1⟩ ⟨_, hOgs55tr, hFgs55tr_2⟩ ⟨_, hOgs55tr, hFgs55tr_3⟩ ⟨_, hOgs55tr, hFgs55tr_4⟩ hAF6n55 hAF34n55 hAF35n55 hAF36n55 (by omega) (by omega) (by omega) (by omega) (by omega) (by first | omega | (simp only [hz69.eq]; omega)) (by first | omega | (simp only [hz69.eq]; omega)) (by omega) (by omega) (by omega) (by omega) (by omega) (by omega) (by omega) (fun j hj q => (jav_succ.mp hcc).2 j (by omega) ((hjv.next (by omega)).mpr (by rw [htp]; exact q)))) (by omega) (Nat.zero_le _) (Nat.zero_le _) (Nat.le_of_ble_eq_true rfl) (fun r100 V100 h100 => ?_)
                    obtain ⟨h100, hX100_0, hX100_1, hX100_2, hX100_3, hX100_4, ⟨fv100_0, hfv100_0, hfp100_0⟩, ⟨fv100_1, hfv100_1, hfp100_1⟩, ⟨fv100_2, hfv100_2, hfp100_2⟩⟩ := h100
                    obtain ⟨hW, hx100, hr100⟩ := h100
                    have he := he.trans (hx100.sub (jsub_of rfl))
                    have hfp := hfp.trans (hX100_4.sub (fun b hb => by simp only [List.mem_cons, List.not_mem_nil, or_false] at hb ⊢; first | (rcases hb with h9 | h9 | h9 | h9 | h9 <;> simp only [h9, true_or, or_true]) | omega))
                    have ha0 := ha0.mono hx100.1
                    have hb_md := hb_md.mono hx100.1
                    have hb_tr := hb_tr.mono hx100.1
                    have hb_ro := hb_ro.mono hx100.1
                    have hb_s := hb_s.mono hx100.1
                    have hb_xx := hb_xx.mono hx100.1
                    have hb_yy := hb_yy.mono hx100.1
                    have hb_zz := hb_zz.mono hx100.1
                    have hb_sT := hb_sT.mono hx100.1
                    have hb_xxT := hb_xxT.mono hx100.1
                    have hb_yyT := hb_yyT.mono hx100.1
                    have hb_zzT := hb_zzT.mono hx100.1
                    have hO_a0 := hx100.2 _ _ hO_a0 (jnot_of rfl)
                    have hK_a0 := hK_a0.mono hx100.1
                    have hO_ro := (hX100_4 ro (hAB ro List.mem_cons_self)).trans hO_ro
                    have hK_ro := hK_ro.mono hx100.1
                    obtain ⟨fs100tr, hOfs100tr, hRfs100tr⟩ := hx100.1.keep hOgs55tr
                    have hKfs100tr : jokO _ (jFs 1) fs100tr := hW _ _ id hOfs100tr
                    have hFfs100tr_1 := hRfs100tr _ _ hFgs55tr_1
                    have hFfs100tr_2 := hRfs100tr _ _ hFgs55tr_2
                    have hFfs100tr_3 := hRfs100tr _ _ hFgs55tr_3
                    have hFfs100tr_4 := hRfs100tr _ _ hFgs55tr_4
                    have ha_S := (hX100_4 s (hAB s (List.mem_cons_of_mem _ List.mem_cons_self))).trans ha_S
                    have ha_X := (hX100_4 xx (hAB xx (List.mem_cons_of_mem _ (List.mem_cons_of_mem _ List.mem_cons_self)))).trans ha_X
                    have ha_Y := (hX100_4 yy (hAB yy (List.mem_cons_of_mem _ (List.mem_cons_of_mem _ (List.mem_cons_of_mem _ List.mem_cons_self))))).trans ha_Y
                    have ha_Z := (hX100_4 zz (hAB zz (List.mem_cons_of_mem _ (List.mem_cons_of_mem _ (List.mem_cons_of_mem _ (List.mem_cons_of_mem _ List.mem_cons_self)))))).trans ha_Z
                    obtain ⟨y100, rfl, hl100, hh100, hP100_0⟩ := hr100
                    try simp only [hz69.eq] at hP100_0
                    have hFv100_0 := hfv100_0.get hOfs100tr
                    try simp only [hz69.eq] at hfp100_0
                    have hzf100_0 : jEq fv100_0.toInt ((g6n55.toInt) + 1) := hfp100_0
                    clear hfp100_0
                    have hFv100_1 := hfv100_1.get hOfs100tr
                    try simp only [hz69.eq] at hfp100_1
                    have hsb100_1 : MT = fv100_1 := (jI_inj.mp hfp100_1).symm
                    subst hsb100_1
                    have hFv100_2 := hfv100_2.get hOfs100tr
                    try simp only [hz69.eq] at hfp100_2
                    have hsb100_2 : g = fv100_2 := (jI_inj.mp hfp100_2).symm
                    subst hsb100_2
                    obtain ⟨S100, hS100, hSn100, hSo100⟩ := hX100_0
                    obtain ⟨X100, hXa100, hXn100, hXo100⟩ := hX100_1
                    obtain ⟨Y100, hYa100, hYn100, hYo100⟩ := hX100_2
                    obtain ⟨Z100, hZa100, hZn100, hZo100⟩ := hX100_3
                    obtain ⟨hN_S100, hv_S100⟩ := WT_rngI (r := ((-2147483648), 2147483647)) hW id rfl hS100
                    clear hN_S100
                    obtain ⟨hN_X100, hv_X100⟩ := WT_rngI (r := ((-2147483648), 2147483647)) hW id rfl hXa100
                    clear hN_X100
                    obtain ⟨hN_Y100, hv_Y100⟩ := WT_rngI (r := ((-2147483648), 2147483647)) hW id rfl hYa100
                    clear hN_Y100
                    obtain ⟨hN_Z100, hv_Z100⟩ := WT_rngI (r := ((-2147483648), 2147483647)) hW id rfl hZa100
                    clear hN_Z100
                    refine Jz_if_ne (tgt := 109) jEq.rf dX6_pivot_103 (by decide) (fun c103 => ?_) (fun c103 => ?_)
                    · refine Jz_iinc 1 dX6_pivot_109 rfl rfl (by decide) jEq.rf (by decide) (by omega) (by omega) (fun y109 he109 => ?_)
                      refine J_goto (tgt := 55) dX6_pivot_112 (by decide) ?_
                      refine J.mask [true, true, true, true, true, true, false] ?_
                      exact ih55 _ y109 fs100tr fv100_0 S100 X100 Y100 Z100 hW he ha0 hb_md hb_tr hb_ro hb_s hb_xx hb_yy hb_zz hb_sT hb_xxT hb_yyT hb_zzT hfp hO_a0 hK_a0 hO_ro hK_ro hOfs100tr hFfs100tr_1 hFfs100tr_2 hFfs100tr_3 hFfs100tr_4 hFv100_1 hFv100_2 hFv100_0 hS100 hXa100 hYa100 hZa100 ha_S ha_X ha_Y ha_Z (by (try simp only [he109.eq, hzf100_0.eq, true_and, and_true]) <;> omega) (by (try simp only [he109.eq, hzf100_0.eq, true_and, and_true]) <;> omega) (fun j hj => by rw [hzf100_0.eq] at hj; by_cases c : (j : Int) = g6n55.toInt; (have e : j = g6n55.toInt.toNat := by omega); subst e; rw [hSn100, htp]; rw [hSo100 j (by omega)]; exact hts j (by omega)) (by rw [hzf100_0.eq, show (g6n55.toInt + 1).toNat = g6n55.toInt.toNat + 1 by omega]; exact hjv.lay (by rw [hXn100, htp]) (by rw [hYn100, htp]) (by rw [hZn100, htp]) hXo100 hYo100 hZo100) (by rw [hzf100_0.eq, show (g6n55.toInt + 1).toNat = g6n55.toInt.toNat + 1 by omega]; exact hcc) (by (try simp only [he109.eq, hzf100_0.eq, true_and, and_true]) <;> omega)
                    · exact False.elim (by omega)
                  · refine Jw_callV1 (q9 := (RX3, TX3, 7)) moX3_lay jw_ml_X6_72 jw_im_X3_lay jw_se_X3_lay hb_tr rfl rfl dX6_pivot_100 (w_X3_lay_no (d - 1) _ tr y69 MT g g6n55 sT xxT yyT zzT F6n55 F34n55 F35n55 F36n55 (by omega) hW  hb_tr ⟨_, hOgs55tr, hFgs55tr_0⟩ ⟨_, hOgs55tr, hFgs55tr_5⟩ ⟨_, hOgs55tr, hFgs55tr_6⟩ ⟨_, hOgs55tr, hFgs55tr_1⟩ ⟨_, hOgs55tr, hFgs55tr_2⟩ ⟨_, hOgs55tr, hFgs55tr_3⟩ ⟨_, hOgs55tr, hFgs55tr_4⟩ hAF6n55 hAF34n55 hAF35n55 hAF36n55 (by omega) (by omega) (by omega) (by omega) (by omega) (by first | omega | (simp only [hz69.eq]; omega)) (by first | omega | (simp only [hz69.eq]; omega)) (by omega) (by omega) (by omega) (by omega) (by omega) (by omega) (Or.inr (by obtain ⟨i, h1, h2⟩ := jav_not hav hcc; exact ⟨i, by omega, by have q := (hjv.next h1).mp h2; rw [htp] at q; exact q⟩))) (by omega) (Nat.zero_le _) (Nat.zero_le _) (Nat.le_of_ble_eq_true rfl) (fun r100 V100 h100 => ?_)
                    obtain ⟨⟨y100, rfl, hl100, hh100, hP100_0⟩, hE100⟩ := h100
                    have hE100 := hE100.symm
                    subst hE100
                    try simp only [hz69.eq] at hP100_0
                    refine Jz_if_ne (tgt := 109) jEq.rf dX6_pivot_103 (by decide) (fun c103 => ?_) (fun c103 => ?_)
                    · exact False.elim (by omega)
                    · refine Jz_bipush (-3) dX6_pivot_106 (by decide) (fun y106 he106 => ?_)
                      exact J_ret (r := some (.int _)) dX6_pivot_108 ⟨rfl, _, rfl, rfl⟩ (⟨⟨hW, he, ⟨_, rfl, (j_rng _).1, (j_rng _).2, (by (try simp only [he106.eq, true_and, and_true]) <;> omega)⟩⟩, ⟨_, _, _, _, _, _, ⟨⟨_, ⟨_, hOgs55tr, hFgs55tr_0⟩, hm_tr⟩, ⟨_, ⟨_, hOgs55tr, hFgs55tr_5⟩, rfl⟩, ⟨_, ⟨_, hOgs55tr, hFgs55tr_6⟩, rfl⟩, ⟨_, hOgs55tr, hFgs55tr_1⟩, ⟨_, hOgs55tr, hFgs55tr_2⟩, ⟨_, hOgs55tr, hFgs55tr_3⟩, ⟨_, hOgs55tr, hFgs55tr_4⟩, hAF6n55, hAF34n55, hAF35n55, hAF36n55⟩, (hjv 0 (Nat.zero_le _))⟩, hfp⟩)
          refine J.mask [true, true, true, true, true, true, false] ?_
          exact L55 _ _ y52 fs49tr fv49_2 ST XT YT ZT hW he ha0 hb_md hb_tr hb_ro hb_s hb_xx hb_yy hb_zz hb_sT hb_xxT hb_yyT hb_zzT hfp hO_a0 hK_a0 hO_ro hK_ro hOfs49tr hFfs49tr_1 hFfs49tr_2 hFfs49tr_3 hFfs49tr_4 hFv49_0 hFv49_1 hFv49_2 ha_ST ha_XT ha_YT ha_ZT ha_S ha_X ha_Y ha_Z (by (try simp only [he52.eq, hzf49_2.eq, true_and, and_true]) <;> omega) (by (try simp only [he52.eq, hzf49_2.eq, true_and, and_true]) <;> omega) (fun j hj => by rw [hzf49_2.eq] at hj; omega) (by rw [hzf49_2.eq]; intro i hi; rw [show i = 0 by omega]; exact ⟨hz0, hz1, hz2⟩) (by rw [hzf49_2.eq]; exact jav.zero) (Nat.lt_succ_self _)
        · exact False.elim (by omega)
set_option maxRecDepth 100000 in
set_option maxHeartbeats 8000000 in
theorem w_X6_pivot_ok {tS : jTS} (d : Nat) (V0 : jH) (a0 : Nat) (x1 : Int32) (x2 : Int32) (x3 : Int32) (k : Int32) (md : Nat) (tr : Nat) (f : Nat → Option Nat) (ro : Nat) (M : Int32) (g : Int32) (n : Int32) (s : Nat) (xx : Nat) (yy : Nat) (zz : Nat) (S : Nat → Int32) (X : Nat → Int32) (Y : Nat → Int32) (Z : Nat → Int32) (MT : Int32) (gT : Int32) (nT : Int32) (sT : Nat) (xxT : Nat) (yyT : Nat) (zzT : Nat) (ST : Nat → Int32) (XT : Nat → Int32) (YT : Nat → Int32) (ZT : Nat → Int32) (hd : 4 ≤ d) (hW : WT V0) (ha0 : jis V0 (.inr 4) a0) (hf_k : jfI V0 a0 4 1 k) (hr_md : jfR V0 a0 4 0 md) (hr_tr : jfR V0 a0 4 2 tr) (ha_f : V0 md = some (.inl (4, 16, .inr (.inr (.inr (.inr f)))))) (hf_M : jfI V0 ro 1 0 M) (hf_g : jfI V0 ro 1 5 g) (hf_n : jfI V0 ro 1 6 n) (hr_s : jfR V0 ro 1 1 s) (hr_xx : jfR V0 ro 1 2 xx) (hr_yy : jfR V0 ro 1 3 yy) (hr_zz : jfR V0 ro 1 4 zz) (ha_S : V0 s = some (.inl (6, 60, .inl S))) (ha_X : V0 xx = some (.inl (34, 61, .inl X))) (ha_Y : V0 yy = some (.inl (35, 61, .inl Y))) (ha_Z : V0 zz = some (.inl (36, 61, .inl Z))) (hm_ro : M.toInt = 60) (hn_ro : n.toInt ≤ 60) (hfo : f x1.toInt.toNat = some ro) (hf_MT : jfI V0 tr 1 0 MT) (hf_gT : jfI V0 tr 1 5 gT) (hf_nT : jfI V0 tr 1 6 nT) (hr_sT : jfR V0 tr 1 1 sT) (hr_xxT : jfR V0 tr 1 2 xxT) (hr_yyT : jfR V0 tr 1 3 yyT) (hr_zzT : jfR V0 tr 1 4 zzT) (ha_ST : V0 sT = some (.inl (6, 120, .inl ST))) (ha_XT : V0 xxT = some (.inl (34, 121, .inl XT))) (ha_YT : V0 yyT = some (.inl (35, 121, .inl YT))) (ha_ZT : V0 zzT = some (.inl (36, 121, .inl ZT))) (hm_tr : MT.toInt = 120) (hn_tr : nT.toInt ≤ 120) (hAB : ∀ b ∈ [ro, s, xx, yy, zz], b ∉ [tr, sT, xxT, yyT, zzT]) (hBA : ∀ b ∈ [tr, sT, xxT, yyT, zzT], b ∉ [ro, s, xx, yy, zz]) (hp0 : 0 ≤ x1.toInt) (hp1 : x1.toInt < k.toInt) (hp2 : 0 ≤ g.toInt) (hp3 : g.toInt ≤ 3) (hp4 : 0 ≤ x2.toInt) (hp5 : x2.toInt ≤ n.toInt) (hp6 : 0 ≤ x3.toInt) (hp7 : x3.toInt < jtur g.toInt) (hp8 : ∀ j : Nat, (j : Int) < n.toInt → 0 ≤ (S j).toInt ∧ (S j).toInt < jdir g.toInt) (hp9 : (XT 0).toInt = 0) (hp10 : (YT 0).toInt = 0) (hp11 : (ZT 0).toInt = 0) (hp12 : jav g.toInt (jTp g.toInt x3.toInt x2.toInt (fun q => (S q).toInt)) n.toInt.toNat) : jTot tS mX6_pivot d [.ref a0, .int x1, .int x2, .int x3] V0 0 0 (fun r V => (jPost [.inr 1, .inl 6, .inl 34, .inl 35, .inl 36] V0 (fun r _ => ∃ y : Int32, r = some (.int y) ∧ ((-2147483648) ≤ y.toInt) ∧ (y.toInt ≤ 2147483647) ∧ (y.toInt = 1))) r V ∧ (∃ S2 X2 Y2 Z2 : Nat → Int32, jrw V ro s xx yy zz 60 g.toInt (n.toInt) S2 X2 Y2 Z2 ∧ (∀ j : Nat, (j : Int) < n.toInt → (S2 j).toInt = (jTp g.toInt x3.toInt x2.toInt (fun q => (S q).toInt)) j) ∧ jrv g.toInt (jTp g.toInt x3.toInt x2.toInt (fun q => (S q).toInt)) (n.toInt).toNat X2 Y2 Z2) ∧ (∃ (g2 n2 : Int) (S2 X2 Y2 Z2 : Nat → Int32), jrw V tr sT xxT yyT zzT 120 g2 n2 S2 X2 Y2 Z2 ∧ (X2 0).toInt = 0 ∧ (Y2 0).toInt = 0 ∧ (Z2 0).toInt = 0) ∧ jfp [ro, s, xx, yy, zz, tr, sT, xxT, yyT, zzT] V0 V) := by
  refine jTot.of_J [some (.ref a0), some (.int x1), some (.int x2), some (.int x3), none, none, none] moX6_pivot (Nat.le_of_ble_eq_true rfl) rfl ?_
  have hrx1 := j_rng x1
  have hrx2 := j_rng x2
  have hrx3 := j_rng x3
  have he : jeff [.inr 1, .inl 6, .inl 34, .inl 35, .inl 36] V0 V0 := jeff.refl _ _
  have hfp : jfp [ro, s, xx, yy, zz, tr, sT, xxT, yyT, zzT] V0 V0 := jfp.rf
  obtain ⟨fs_a0, hO_a0, hK_a0⟩ := WT_obj hW id ha0
  have hF_k := hf_k.get hO_a0
  have hrk : 0 ≤ k.toInt ∧ k.toInt ≤ 16 := jok_rngI hK_a0 rfl hF_k
  have hF_md := hr_md.get hO_a0
  obtain ⟨w_md, hFq_md, b_md, hbq_md, hb_md⟩ := hK_a0.2 0 (.inr (some (.inl 4))) rfl
  cases hF_md.symm.trans (hFq_md.trans (congrArg some hbq_md))
  have hF_tr := hr_tr.get hO_a0
  obtain ⟨w_tr, hFq_tr, b_tr, hbq_tr, hb_tr⟩ := hK_a0.2 2 (.inr (some (.inr 1))) rfl
  cases hF_tr.symm.trans (hFq_tr.trans (congrArg some hbq_tr))
  have hb_ro : jis V0 (.inr 1) ro := by obtain ⟨q1, q2, q3⟩ := hf_M; exact ⟨_, q2, rfl⟩
  obtain ⟨fs_ro, hO_ro, hK_ro⟩ := WT_obj hW id hb_ro
  have hF_M := hf_M.get hO_ro
  have hrM : 0 ≤ M.toInt ∧ M.toInt ≤ 120 := jok_rngI hK_ro rfl hF_M
  have hF_g := hf_g.get hO_ro
  have hrg : (-2147483648) ≤ g.toInt ∧ g.toInt ≤ 2147483647 := jok_rngI hK_ro rfl hF_g
  have hF_n := hf_n.get hO_ro
  have hrn : 0 ≤ n.toInt ∧ n.toInt ≤ 120 := jok_rngI hK_ro rfl hF_n
  have hF_s := hr_s.get hO_ro
  have hb_s : jis V0 (.inl 6) s := ⟨_, ha_S, rfl⟩
  obtain ⟨hN_S, hv_S⟩ := WT_rngI (r := (-2147483648, 2147483647)) hW id rfl ha_S
  clear hN_S
  have hF_xx := hr_xx.get hO_ro
  have hb_xx : jis V0 (.inl 34) xx := ⟨_, ha_X, rfl⟩
  obtain ⟨hN_X, hv_X⟩ := WT_rngI (r := (-2147483648, 2147483647)) hW id rfl ha_X
  clear hN_X
  have hF_yy := hr_yy.get hO_ro
  have hb_yy : jis V0 (.inl 35) yy := ⟨_, ha_Y, rfl⟩
  obtain ⟨hN_Y, hv_Y⟩ := WT_rngI (r := (-2147483648, 2147483647)) hW id rfl ha_Y
  clear hN_Y
  have hF_zz := hr_zz.get hO_ro
  have hb_zz : jis V0 (.inl 36) zz := ⟨_, ha_Z, rfl⟩
  obtain ⟨hN_Z, hv_Z⟩ := WT_rngI (r := (-2147483648, 2147483647)) hW id rfl ha_Z
  clear hN_Z
  obtain ⟨fs_tr, hO_tr, hK_tr⟩ := WT_obj hW id hb_tr
  have hF_MT := hf_MT.get hO_tr
  have hrMT : 0 ≤ MT.toInt ∧ MT.toInt ≤ 120 := jok_rngI hK_tr rfl hF_MT
  have hF_gT := hf_gT.get hO_tr
  have hrgT : (-2147483648) ≤ gT.toInt ∧ gT.toInt ≤ 2147483647 := jok_rngI hK_tr rfl hF_gT
  have hF_nT := hf_nT.get hO_tr
  have hrnT : 0 ≤ nT.toInt ∧ nT.toInt ≤ 120 := jok_rngI hK_tr rfl hF_nT
  have hF_sT := hr_sT.get hO_tr
  have hb_sT : jis V0 (.inl 6) sT := ⟨_, ha_ST, rfl⟩
  obtain ⟨hN_ST, hv_ST⟩ := WT_rngI (r := (-2147483648, 2147483647)) hW id rfl ha_ST
  clear hN_ST
  have hF_xxT := hr_xxT.get hO_tr
  have hb_xxT : jis V0 (.inl 34) xxT := ⟨_, ha_XT, rfl⟩
  obtain ⟨hN_XT, hv_XT⟩ := WT_rngI (r := (-2147483648, 2147483647)) hW id rfl ha_XT
  clear hN_XT
  have hF_yyT := hr_yyT.get hO_tr
  have hb_yyT : jis V0 (.inl 35) yyT := ⟨_, ha_YT, rfl⟩
  obtain ⟨hN_YT, hv_YT⟩ := WT_rngI (r := (-2147483648, 2147483647)) hW id rfl ha_YT
  clear hN_YT
  have hF_zzT := hr_zzT.get hO_tr
  have hb_zzT : jis V0 (.inl 36) zzT := ⟨_, ha_ZT, rfl⟩
  obtain ⟨hN_ZT, hv_ZT⟩ := WT_rngI (r := (-2147483648, 2147483647)) hW id rfl ha_ZT
  clear hN_ZT
  refine J_aload_n dX6_pivot_0 rfl ?_
  refine J_iload_n dX6_pivot_1 rfl ?_
  refine Jw_callV1 (q9 := (RX6, TX6, 7)) moX6_rowOf jw_ml_X6_55 jw_im_X6_rowOf jw_se_X6_rowOf ha0 rfl rfl dX6_pivot_2 (w_X6_rowOf_in (d - 1) _ a0 x1 hO_a0 hF_md hF_k ha_f (by omega) (by omega) (by omega) hfo) (by omega) (Nat.zero_le _) (Nat.zero_le _) (Nat.le_of_ble_eq_true rfl) (fun r2 V2 h2 => ?_)
  obtain ⟨rfl, hE2⟩ := h2
  have hE2 := hE2.symm
  subst hE2
  · refine J_astore dX6_pivot_5 rfl (by decide) ?_
    refine J_aload dX6_pivot_7 rfl ?_
    refine J_ifnull dX6_pivot_9 ?_
    refine J_iload_n dX6_pivot_12 rfl ?_
    refine Jz_if_lt (tgt := 37) jEq.rf dX6_pivot_13 (by decide) (fun c13 => ?_) (fun c13 => ?_)
    · exact False.elim (by omega)
    · refine J_iload_n dX6_pivot_16 rfl ?_
      refine J_aload dX6_pivot_17 rfl ?_
      refine J_get jf_X6_69 dX6_pivot_19 hO_ro hF_n ?_
      refine Jz_icmp_gt (tgt := 37) jEq.rf jEq.rf dX6_pivot_22 (by decide) (fun c22 => ?_) (fun c22 => ?_)
      · exact False.elim (by omega)
      · refine J_aload dX6_pivot_25 rfl ?_
        refine J_get jf_X6_59 dX6_pivot_27 hO_ro hF_g ?_
        refine J_iload_n dX6_pivot_30 rfl ?_
        refine J_callS2 moX0_isTurn jw_ml_X6_78 jw_st_X0_isTurn dX6_pivot_31 (w_X0_isTurn_z (d - 1) _ g x3 (by omega)   (by omega) (by omega)) (by omega) (Nat.zero_le _) (Nat.zero_le _) (Nat.le_of_ble_eq_true rfl) (fun r31 V31 h31 => ?_)
        obtain ⟨⟨y31, rfl, hl31, hh31, hP31_0⟩, hE31⟩ := h31
        have hE31 := hE31.symm
        subst hE31
        refine Jz_if_ne (tgt := 40) jEq.rf dX6_pivot_34 (by decide) (fun c34 => ?_) (fun c34 => ?_)
        · refine J_aload_n dX6_pivot_40 rfl ?_
          refine J_get jf_X6_22 dX6_pivot_41 hO_a0 hF_tr ?_
          refine J_aload dX6_pivot_44 rfl ?_
          refine J_get jf_X6_59 dX6_pivot_46 hO_ro hF_g ?_
          have hz0 := hp9
          have hz1 := hp10
          have hz2 := hp11
          have hdc := jdir_cases g.toInt
          have htc := jtur_cases g.toInt
          refine Jw_callV1 (q9 := (RX3, TX3, 7)) moX3_begin jw_ml_X6_52 jw_im_X3_begin jw_se_X3_begin hb_tr rfl rfl dX6_pivot_49 (w_X3_begin_z (d - 1) _ tr g MT (by omega) hW  hb_tr ⟨_, hO_tr, hF_MT⟩) (by omega) (Nat.zero_le _) (Nat.zero_le _) (Nat.le_of_ble_eq_true rfl) (fun r49 V49 h49 => ?_)
          obtain ⟨h49, hX49_0, ⟨fv49_0, hfv49_0, hfp49_0⟩, ⟨fv49_1, hfv49_1, hfp49_1⟩, ⟨fv49_2, hfv49_2, hfp49_2⟩⟩ := h49
          obtain ⟨hW, hx49, hr49⟩ := h49
          have he := he.trans (hx49.sub (jsub_of rfl))
          have hfp := hfp.trans (hX49_0.sub (fun b hb => by simp only [List.mem_cons, List.not_mem_nil, or_false] at hb ⊢; first | (rcases hb with h9 <;> simp only [h9, true_or, or_true]) | omega))
          have ha0 := ha0.mono hx49.1
          have hb_md := hb_md.mono hx49.1
          have hb_tr := hb_tr.mono hx49.1
          have hb_ro := hb_ro.mono hx49.1
          have hb_s := hb_s.mono hx49.1
          have hb_xx := hb_xx.mono hx49.1
          have hb_yy := hb_yy.mono hx49.1
          have hb_zz := hb_zz.mono hx49.1
          have hb_sT := hb_sT.mono hx49.1
          have hb_xxT := hb_xxT.mono hx49.1
          have hb_yyT := hb_yyT.mono hx49.1
          have hb_zzT := hb_zzT.mono hx49.1
          have hO_a0 := hx49.2 _ _ hO_a0 (jnot_of rfl)
          have hK_a0 := hK_a0.mono hx49.1
          have hO_ro := (hX49_0 ro (fun q => hAB ro List.mem_cons_self (List.mem_cons.mpr (Or.inl (List.mem_singleton.mp q))))).trans hO_ro
          have hK_ro := hK_ro.mono hx49.1
          obtain ⟨fs49tr, hOfs49tr, hRfs49tr⟩ := hx49.1.keep hO_tr
          have hKfs49tr : jokO _ (jFs 1) fs49tr := hW _ _ id hOfs49tr
          have hFfs49tr_1 := hRfs49tr _ _ hF_sT
          have hFfs49tr_2 := hRfs49tr _ _ hF_xxT
          have hFfs49tr_3 := hRfs49tr _ _ hF_yyT
          have hFfs49tr_4 := hRfs49tr _ _ hF_zzT
          have ha_S := (hX49_0 s (fun q => hAB s (List.mem_cons_of_mem _ List.mem_cons_self) (List.mem_cons.mpr (Or.inl (List.mem_singleton.mp q))))).trans ha_S
          have ha_X := (hX49_0 xx (fun q => hAB xx (List.mem_cons_of_mem _ (List.mem_cons_of_mem _ List.mem_cons_self)) (List.mem_cons.mpr (Or.inl (List.mem_singleton.mp q))))).trans ha_X
          have ha_Y := (hX49_0 yy (fun q => hAB yy (List.mem_cons_of_mem _ (List.mem_cons_of_mem _ (List.mem_cons_of_mem _ List.mem_cons_self))) (List.mem_cons.mpr (Or.inl (List.mem_singleton.mp q))))).trans ha_Y
          have ha_Z := (hX49_0 zz (fun q => hAB zz (List.mem_cons_of_mem _ (List.mem_cons_of_mem _ (List.mem_cons_of_mem _ (List.mem_cons_of_mem _ List.mem_cons_self)))) (List.mem_cons.mpr (Or.inl (List.mem_singleton.mp q))))).trans ha_Z
          have ha_ST := hx49.2 _ _ ha_ST (jnot_of rfl)
          have ha_XT := hx49.2 _ _ ha_XT (jnot_of rfl)
          have ha_YT := hx49.2 _ _ ha_YT (jnot_of rfl)
          have ha_ZT := hx49.2 _ _ ha_ZT (jnot_of rfl)
          cases hr49
          have hFv49_0 := hfv49_0.get hOfs49tr
          have hsb49_0 : MT = fv49_0 := (jI_inj.mp hfp49_0).symm
          subst hsb49_0
          have hFv49_1 := hfv49_1.get hOfs49tr
          have hsb49_1 : g = fv49_1 := (jI_inj.mp hfp49_1).symm
          subst hsb49_1
          have hFv49_2 := hfv49_2.get hOfs49tr
          have hzf49_2 : jEq fv49_2.toInt (0) := hfp49_2
          clear hfp49_2
          refine Jz_iconst 0 dX6_pivot_52 (by decide) (fun y52 he52 => ?_)
          refine J_istore dX6_pivot_53 rfl (by decide) ?_
          have L55 : ∀ (N : Nat) (V : jH) (i5n55 : Int32) (gs55tr : List Value) (g6n55 : Int32) (F6n55 : Nat → Int32) (F34n55 : Nat → Int32) (F35n55 : Nat → Int32) (F36n55 : Nat → Int32), WT V → jeff [.inr 1, .inl 6, .inl 34, .inl 35, .inl 36] V0 V → (jis V (.inr 4) a0) → (jis V (.inl 4) md) → (jis V (.inr 1) tr) → (jis V (.inr 1) ro) → (jis V (.inl 6) s) → (jis V (.inl 34) xx) → (jis V (.inl 35) yy) → (jis V (.inl 36) zz) → (jis V (.inl 6) sT) → (jis V (.inl 34) xxT) → (jis V (.inl 35) yyT) → (jis V (.inl 36) zzT) → (jfp [ro, s, xx, yy, zz, tr, sT, xxT, yyT, zzT] V0 V) → (V a0 = some (.inr (4, fs_a0))) → (jokO V (jFs 4) fs_a0) → (V ro = some (.inr (1, fs_ro))) → (jokO V (jFs 1) fs_ro) → (V tr = some (.inr (1, gs55tr))) → (gs55tr[1]? = some (.ref sT)) → (gs55tr[2]? = some (.ref xxT)) → (gs55tr[3]? = some (.ref yyT)) → (gs55tr[4]? = some (.ref zzT)) → (gs55tr[0]? = some (.int MT)) → (gs55tr[5]? = some (.int g)) → (gs55tr[6]? = some (.int g6n55)) → (V sT = some (.inl (6, 120, .inl F6n55))) → (V xxT = some (.inl (34, 121, .inl F34n55))) → (V yyT = some (.inl (35, 121, .inl F35n55))) → (V zzT = some (.inl (36, 121, .inl F36n55))) → (V s = some (.inl (6, 60, .inl S))) → (V xx = some (.inl (34, 61, .inl X))) → (V yy = some (.inl (35, 61, .inl Y))) → (V zz = some (.inl (36, 61, .inl Z))) → (0 ≤ i5n55.toInt ∧ i5n55.toInt ≤ n.toInt) → (g6n55.toInt = i5n55.toInt) → (∀ j : Nat, (j : Int) < g6n55.toInt → (F6n55 j).toInt = (jTp g.toInt x3.toInt x2.toInt (fun q => (S q).toInt)) j) → (jrv g.toInt (jTp g.toInt x3.toInt x2.toInt (fun q => (S q).toInt)) g6n55.toInt.toNat F34n55 F35n55 F36n55) → (jav g.toInt (jTp g.toInt x3.toInt x2.toInt (fun q => (S q).toInt)) g6n55.toInt.toNat) → (300 - i5n55.toInt).toNat < N → J tS mX6_pivot d 55 [some (.ref a0), some (.int x1), some (.int x2), some (.int x3), some (.ref ro), some (.int i5n55), none] [] V 0 0 (fun r V => (jPost [.inr 1, .inl 6, .inl 34, .inl 35, .inl 36] V0 (fun r _ => ∃ y : Int32, r = some (.int y) ∧ ((-2147483648) ≤ y.toInt) ∧ (y.toInt ≤ 2147483647) ∧ (y.toInt = 1))) r V ∧ (∃ S2 X2 Y2 Z2 : Nat → Int32, jrw V ro s xx yy zz 60 g.toInt (n.toInt) S2 X2 Y2 Z2 ∧ (∀ j : Nat, (j : Int) < n.toInt → (S2 j).toInt = (jTp g.toInt x3.toInt x2.toInt (fun q => (S q).toInt)) j) ∧ jrv g.toInt (jTp g.toInt x3.toInt x2.toInt (fun q => (S q).toInt)) (n.toInt).toNat X2 Y2 Z2) ∧ (∃ (g2 n2 : Int) (S2 X2 Y2 Z2 : Nat → Int32), jrw V tr sT xxT yyT zzT 120 g2 n2 S2 X2 Y2 Z2 ∧ (X2 0).toInt = 0 ∧ (Y2 0).toInt = 0 ∧ (Z2 0).toInt = 0) ∧ jfp [ro, s, xx, yy, zz, tr, sT, xxT, yyT, zzT] V0 V) := by
            intro N
            induction N with
            | zero => intro V i5n55 gs55tr g6n55 F6n55 F34n55 F35n55 F36n55 hW he ha0 hb_md hb_tr hb_ro hb_s hb_xx hb_yy hb_zz hb_sT hb_xxT hb_yyT hb_zzT hfp hO_a0 hK_a0 hO_ro hK_ro hOgs55tr hFgs55tr_1 hFgs55tr_2 hFgs55tr_3 hFgs55tr_4 hFgs55tr_0 hFgs55tr_5 hFgs55tr_6 hAF6n55 hAF34n55 hAF35n55 hAF36n55 ha_S ha_X ha_Y ha_Z hi htn hts hjv hav hm; exact absurd hm (Nat.not_lt_zero _)
            | succ N ih =>
              intro V i5n55 gs55tr g6n55 F6n55 F34n55 F35n55 F36n55 hW he ha0 hb_md hb_tr hb_ro hb_s hb_xx hb_yy hb_zz hb_sT hb_xxT hb_yyT hb_zzT hfp hO_a0 hK_a0 hO_ro hK_ro hOgs55tr hFgs55tr_1 hFgs55tr_2 hFgs55tr_3 hFgs55tr_4 hFgs55tr_0 hFgs55tr_5 hFgs55tr_6 hAF6n55 hAF34n55 hAF35n55 hAF36n55 ha_S ha_X ha_Y ha_Z hi htn hts hjv hav hm
              have ih55 := ih
              have hri5 := j_rng i5n55
              have hKgs55tr : jokO V (jFs 1) gs55tr := hW _ _ id hOgs55tr
              have hrgg6n55 : 0 ≤ g6n55.toInt ∧ g6n55.toInt ≤ 120 := jok_rngI hKgs55tr rfl hFgs55tr_6
              obtain ⟨hNF6n55, hvF6n55⟩ := WT_rngI (r := ((-2147483648), 2147483647)) hW id rfl hAF6n55
              clear hNF6n55
              obtain ⟨hNF34n55, hvF34n55⟩ := WT_rngI (r := ((-2147483648), 2147483647)) hW id rfl hAF34n55
              clear hNF34n55
              obtain ⟨hNF35n55, hvF35n55⟩ := WT_rngI (r := ((-2147483648), 2147483647)) hW id rfl hAF35n55
              clear hNF35n55
              obtain ⟨hNF36n55, hvF36n55⟩ := WT_rngI (r := ((-2147483648), 2147483647)) hW id rfl hAF36n55
              clear hNF36n55
              refine J_iload dX6_pivot_55 rfl ?_
              refine J_aload dX6_pivot_57 rfl ?_
              refine J_get jf_X6_69 dX6_pivot_59 hO_ro hF_n ?_
              refine Jz_icmp_ge (tgt := 115) jEq.rf jEq.rf dX6_pivot_62 (by decide) (fun c62 => ?_) (fun c62 => ?_)
              · refine J_aload dX6_pivot_115 rfl ?_
                refine J_aload_n dX6_pivot_117 rfl ?_
                refine J_get jf_X6_22 dX6_pivot_118 hO_a0 hF_tr ?_
                have hfin : g6n55.toInt = n.toInt := by omega
                refine Jw_callV1 (q9 := (RX3, TX3, 7)) moX3_become jw_ml_X6_89 jw_im_X3_become jw_se_X3_become hb_ro rfl rfl dX6_pivot_121 (w_X3_become_z (d - 1) _ ro tr M g g6n55 s xx yy zz sT xxT yyT zzT S X Y Z F6n55 F34n55 F35n55 F36n55 (by omega) hW  hb_ro hb_tr ⟨_, hO_ro, hF_M⟩ ⟨_, hOgs55tr, hFgs55tr_5⟩ ⟨_, hOgs55tr, hFgs55tr_6⟩ ⟨_, hO_ro, hF_s⟩ ⟨_, hO_ro, hF_xx⟩ ⟨_, hO_ro, hF_yy⟩ ⟨_, hO_ro, hF_zz⟩ ⟨_, hOgs55tr, hFgs55tr_1⟩ ⟨_, hOgs55tr, hFgs55tr_2⟩ ⟨_, hOgs55tr, hFgs55tr_3⟩ ⟨_, hOgs55tr, hFgs55tr_4⟩ (fun e => hBA tr List.mem_cons_self (e ▸ List.mem_cons_self)) (fun e => hBA sT (List.mem_cons_of_mem _ List.mem_cons_self) (e ▸ (List.mem_cons_of_mem _ List.mem_cons_self))) (fun e => hBA xxT (List.mem_cons_of_mem _ (List.mem_cons_of_mem _ List.mem_cons_self)) (e ▸ (List.mem_cons_of_mem _ (List.mem_cons_of_mem _ List.mem_cons_self)))) (fun e => hBA yyT (List.mem_cons_of_mem _ (List.mem_cons_of_mem _ (List.mem_cons_of_mem _ List.mem_cons_self))) (e ▸ (List.mem_cons_of_mem _ (List.mem_cons_of_mem _ (List.mem_cons_of_mem _ List.mem_cons_self))))) (fun e => hBA zzT (List.mem_cons_of_mem _ (List.mem_cons_of_mem _ (List.mem_cons_of_mem _ (List.mem_cons_of_mem _ List.mem_cons_self)))) (e ▸ (List.mem_cons_of_mem _ (List.mem_cons_of_mem _ (List.mem_cons_of_mem _ (List.mem_cons_of_mem _ List.mem_cons_self)))))) ha_S ha_X ha_Y ha_Z hAF6n55 hAF34n55 hAF35n55 hAF36n55 (by omega) (by omega) (by omega) (by omega) (by omega)) (by omega) (Nat.zero_le _) (Nat.zero_le _) (Nat.le_of_ble_eq_true rfl) (fun r121 V121 h121 => ?_)
                obtain ⟨h121, hX121_0, hX121_1, hX121_2, hX121_3, hX121_4, ⟨fv121_0, hfv121_0, hfp121_0⟩, ⟨fv121_1, hfv121_1, hfp121_1⟩, ⟨fv121_2, hfv121_2, hfp121_2⟩⟩ := h121
                obtain ⟨hW, hx121, hr121⟩ := h121
                have he := he.trans (hx121.sub (jsub_of rfl))
                have hfp := hfp.trans (hX121_4.sub (fun b hb => by simp only [List.mem_cons, List.not_mem_nil, or_false] at hb ⊢; first | (rcases hb with h9 | h9 | h9 | h9 | h9 <;> simp only [h9, true_or, or_true]) | omega))
                have ha0 := ha0.mono hx121.1
                have hb_md := hb_md.mono hx121.1
                have hb_tr := hb_tr.mono hx121.1
                have hb_ro := hb_ro.mono hx121.1
                have hb_s := hb_s.mono hx121.1
                have hb_xx := hb_xx.mono hx121.1
                have hb_yy := hb_yy.mono hx121.1
                have hb_zz := hb_zz.mono hx121.1
                have hb_sT := hb_sT.mono hx121.1
                have hb_xxT := hb_xxT.mono hx121.1
                have hb_yyT := hb_yyT.mono hx121.1
                have hb_zzT := hb_zzT.mono hx121.1
                have hO_a0 := hx121.2 _ _ hO_a0 (jnot_of rfl)
                have hK_a0 := hK_a0.mono hx121.1
                obtain ⟨fs121ro, hOfs121ro, hRfs121ro⟩ := hx121.1.keep hO_ro
                have hKfs121ro : jokO _ (jFs 1) fs121ro := hW _ _ id hOfs121ro
                have hFfs121ro_1 := hRfs121ro _ _ hF_s
                have hFfs121ro_2 := hRfs121ro _ _ hF_xx
                have hFfs121ro_3 := hRfs121ro _ _ hF_yy
                have hFfs121ro_4 := hRfs121ro _ _ hF_zz
                have hOgs55tr := (hX121_4 tr (hBA tr List.mem_cons_self)).trans hOgs55tr
                have hKgs55tr := hKgs55tr.mono hx121.1
                have hAF6n55 := (hX121_4 sT (hBA sT (List.mem_cons_of_mem _ List.mem_cons_self))).trans hAF6n55
                have hAF34n55 := (hX121_4 xxT (hBA xxT (List.mem_cons_of_mem _ (List.mem_cons_of_mem _ List.mem_cons_self)))).trans hAF34n55
                have hAF35n55 := (hX121_4 yyT (hBA yyT (List.mem_cons_of_mem _ (List.mem_cons_of_mem _ (List.mem_cons_of_mem _ List.mem_cons_self))))).trans hAF35n55
                have hAF36n55 := (hX121_4 zzT (hBA zzT (List.mem_cons_of_mem _ (List.mem_cons_of_mem _ (List.mem_cons_of_mem _ (List.mem_cons_of_mem _ List.mem_cons_self)))))).trans hAF36n55
                cases hr121
                have hFv121_0 := hfv121_0.get hOfs121ro
                have hsb121_0 : M = fv121_0 := (jI_inj.mp hfp121_0).symm
                subst hsb121_0
                have hFv121_1 := hfv121_1.get hOfs121ro
                have hsb121_1 : g = fv121_1 := (jI_inj.mp hfp121_1).symm
                subst hsb121_1
                have hFv121_2 := hfv121_2.get hOfs121ro
                have hsb121_2 : g6n55 = fv121_2 := (jI_inj.mp hfp121_2).symm
                subst hsb121_2
                obtain ⟨S121, hS121, hSe121⟩ := hX121_0
                obtain ⟨X121, hXa121, hXe121⟩ := hX121_1
                obtain ⟨Y121, hYa121, hYe121⟩ := hX121_2
                obtain ⟨Z121, hZa121, hZe121⟩ := hX121_3
                obtain ⟨hN_S121, hv_S121⟩ := WT_rngI (r := ((-2147483648), 2147483647)) hW id rfl hS121
                clear hN_S121
                obtain ⟨hN_X121, hv_X121⟩ := WT_rngI (r := ((-2147483648), 2147483647)) hW id rfl hXa121
                clear hN_X121
                obtain ⟨hN_Y121, hv_Y121⟩ := WT_rngI (r := ((-2147483648), 2147483647)) hW id rfl hYa121
                clear hN_Y121
                obtain ⟨hN_Z121, hv_Z121⟩ := WT_rngI (r := ((-2147483648), 2147483647)) hW id rfl hZa121
                clear hN_Z121
                refine Jz_iconst 1 dX6_pivot_124 (by decide) (fun y124 he124 => ?_)
                exact J_ret (r := some (.int _)) dX6_pivot_125 ⟨rfl, _, rfl, rfl⟩ (⟨⟨hW, he, ⟨_, rfl, (j_rng _).1, (j_rng _).2, (by (try simp only [he124.eq, true_and, and_true]) <;> omega)⟩⟩, ⟨S121, X121, Y121, Z121, ⟨⟨_, ⟨_, hOfs121ro, hFv121_0⟩, hm_ro⟩, ⟨_, ⟨_, hOfs121ro, hFv121_1⟩, rfl⟩, ⟨_, ⟨_, hOfs121ro, hFv121_2⟩, hfin⟩, ⟨_, hOfs121ro, hFfs121ro_1⟩, ⟨_, hOfs121ro, hFfs121ro_2⟩, ⟨_, hOfs121ro, hFfs121ro_3⟩, ⟨_, hOfs121ro, hFfs121ro_4⟩, hS121, hXa121, hYa121, hZa121⟩, (fun j hj => by rw [hSe121 j (by omega)]; exact hts j (by omega)), (by rw [← hfin]; intro i hi; rw [hXe121 i (by omega), hYe121 i (by omega), hZe121 i (by omega)]; exact hjv i hi)⟩, ⟨_, _, _, _, _, _, ⟨⟨_, ⟨_, hOgs55tr, hFgs55tr_0⟩, hm_tr⟩, ⟨_, ⟨_, hOgs55tr, hFgs55tr_5⟩, rfl⟩, ⟨_, ⟨_, hOgs55tr, hFgs55tr_6⟩, rfl⟩, ⟨_, hOgs55tr, hFgs55tr_1⟩, ⟨_, hOgs55tr, hFgs55tr_2⟩, ⟨_, hOgs55tr, hFgs55tr_3⟩, ⟨_, hOgs55tr, hFgs55tr_4⟩, hAF6n55, hAF34n55, hAF35n55, hAF36n55⟩, (hjv 0 (Nat.zero_le _))⟩, hfp⟩)
              · refine J_aload dX6_pivot_65 rfl ?_
                refine J_iload dX6_pivot_67 rfl ?_
                refine Jw_callV1 (q9 := (RX3, TX3, 7)) moX3_direction jw_ml_X6_81 jw_im_X3_direction jw_se_X3_direction hb_ro rfl rfl dX6_pivot_69 (w_X3_direction_z (d - 1) _ ro i5n55 s S (by omega) hW  hb_ro ⟨_, hO_ro, hF_s⟩ ha_S (by omega) (by omega) (by omega)) (by omega) (Nat.zero_le _) (Nat.zero_le _) (Nat.le_of_ble_eq_true rfl) (fun r69 V69 h69 => ?_)
                obtain ⟨⟨y69, rfl, hl69, hh69, hP69_0⟩, hE69⟩ := h69
                have hE69 := hE69.symm
                subst hE69
                clear hl69 hh69
                have hz69 : jEq y69.toInt ((S (i5n55.toInt).toNat).toInt) := hP69_0
                clear hP69_0
                have hsd := hp8 i5n55.toInt.toNat (by omega)
                refine J_istore dX6_pivot_72 rfl (by decide) ?_
                refine J_aload_n dX6_pivot_74 rfl ?_
                refine J_get jf_X6_22 dX6_pivot_75 hO_a0 hF_tr ?_
                refine J_iload dX6_pivot_78 rfl ?_
                refine J_iload_n dX6_pivot_80 rfl ?_
                refine Jz_icmp_ge (tgt := 89) jEq.rf jEq.rf dX6_pivot_81 (by decide) (fun c81 => ?_) (fun c81 => ?_)
                · refine J_aload dX6_pivot_89 rfl ?_
                  refine J_get jf_X6_59 dX6_pivot_91 hO_ro hF_g ?_
                  refine J_iload_n dX6_pivot_94 rfl ?_
                  refine J_iload dX6_pivot_95 rfl ?_
                  refine J_callS3 moX0_turned jw_ml_X6_85 jw_st_X0_turned dX6_pivot_97 (w_X0_turned_z (d - 1) _ g x3 y69 (by omega)   (by omega) (by omega) (by omega) (by omega) (by (try simp only [hz69.eq, true_and, and_true]) <;> omega) (by (try simp only [hz69.eq, true_and, and_true]) <;> omega)) (by omega) (Nat.zero_le _) (Nat.zero_le _) (Nat.le_of_ble_eq_true rfl) (fun r97 V97 h97 => ?_)
                  obtain ⟨⟨y97, rfl, hl97, hh97, hP97_0⟩, hE97⟩ := h97
                  have hE97 := hE97.symm
                  subst hE97
                  clear hl97 hh97
                  try simp only [hz69.eq] at hP97_0
                  have hz97 : jEq y97.toInt (jtn (g.toInt) (x3.toInt) ((S (i5n55.toInt).toNat).toInt)) := hP97_0
                  clear hP97_0
                  have htb := jtn_b (g := g.toInt) (t := x3.toInt) (d := (S i5n55.toInt.toNat).toInt) (by omega) (by omega) (by omega) (by omega) (by omega) (by omega)
                  have htp : (jTp g.toInt x3.toInt x2.toInt (fun q => (S q).toInt)) g6n55.toInt.toNat = y97.toInt := (by unfold jTp; first | (rw [if_pos (by omega), htn]; exact (hz97.eq).symm) | (rw [if_neg (by omega), htn]; exact (hz97.eq).symm))
                  have hbx := hjv.b g6n55.toInt.toNat (Nat.le_refl _)
                  have hcc : jav g.toInt (jTp g.toInt x3.toInt x2.toInt (fun q => (S q).toInt)) (g6n55.toInt.toNat + 1) := hp12.mono (by omega)
                  refine Jw_callV1 (q9 := (RX3, TX3, 7)) moX3_lay jw_ml_X6_72 jw_im_X3_lay jw_se_X3_lay hb_tr rfl rfl dX6_pivot_100 (w_X3_lay_yes (d - 1) _ tr y97 MT g g6n55 sT xxT yyT zzT F6n55 F34n55 F35n55 F36n55 (by omega) hW  hb_tr ⟨_, hOgs55tr, hFgs55tr_0⟩ ⟨_, hOgs55tr, hFgs55tr_5⟩ ⟨_, hOgs55tr, hFgs55tr_6⟩ ⟨_, hOgs55tr, hFgs55tr_1⟩ ⟨_, hOgs55tr, hFgs55tr_2⟩ ⟨_, hOgs55tr, hFgs55tr_3⟩ ⟨_, hOgs55tr, hFgs55tr_4⟩ hAF6n55 hAF34n55 hAF35n55 hAF36n55 (by omega) (by omega) (by omega) (by omega) (by omega) (by first | omega | (simp only [hz97.eq]; omega)) (by first | omega | (simp only [hz97.eq]; omega)) (by omega) (by omega) (by omega) (by omega) (by omega) (by omega) (by omega) (fun j hj q => (jav_succ.mp hcc).2 j (by omega) ((hjv.next (by omega)).mpr (by rw [htp]; exact q)))) (by omega) (Nat.zero_le _) (Nat.zero_le _) (Nat.le_of_ble_eq_true rfl) (fun r100 V100 h100 => ?_)
                  obtain ⟨h100, hX100_0, hX100_1, hX100_2, hX100_3, hX100_4, ⟨fv100_0, hfv100_0, hfp100_0⟩, ⟨fv100_1, hfv100_1, hfp100_1⟩, ⟨fv100_2, hfv100_2, hfp100_2⟩⟩ := h100
                  obtain ⟨hW, hx100, hr100⟩ := h100
                  have he := he.trans (hx100.sub (jsub_of rfl))
                  have hfp := hfp.trans (hX100_4.sub (fun b hb => by simp only [List.mem_cons, List.not_mem_nil, or_false] at hb ⊢; first | (rcases hb with h9 | h9 | h9 | h9 | h9 <;> simp only [h9, true_or, or_true]) | omega))
                  have ha0 := ha0.mono hx100.1
                  have hb_md := hb_md.mono hx100.1
                  have hb_tr := hb_tr.mono hx100.1
                  have hb_ro := hb_ro.mono hx100.1
                  have hb_s := hb_s.mono hx100.1
                  have hb_xx := hb_xx.mono hx100.1
                  have hb_yy := hb_yy.mono hx100.1
                  have hb_zz := hb_zz.mono hx100.1
                  have hb_sT := hb_sT.mono hx100.1
                  have hb_xxT := hb_xxT.mono hx100.1
                  have hb_yyT := hb_yyT.mono hx100.1
                  have hb_zzT := hb_zzT.mono hx100.1
                  have hO_a0 := hx100.2 _ _ hO_a0 (jnot_of rfl)
                  have hK_a0 := hK_a0.mono hx100.1
                  have hO_ro := (hX100_4 ro (hAB ro List.mem_cons_self)).trans hO_ro
                  have hK_ro := hK_ro.mono hx100.1
                  obtain ⟨fs100tr, hOfs100tr, hRfs100tr⟩ := hx100.1.keep hOgs55tr
                  have hKfs100tr : jokO _ (jFs 1) fs100tr := hW _ _ id hOfs100tr
                  have hFfs100tr_1 := hRfs100tr _ _ hFgs55tr_1
                  have hFfs100tr_2 := hRfs100tr _ _ hFgs55tr_2
                  have hFfs100tr_3 := hRfs100tr _ _ hFgs55tr_3
                  have hFfs100tr_4 := hRfs100tr _ _ hFgs55tr_4
                  have ha_S := (hX100_4 s (hAB s (List.mem_cons_of_mem _ List.mem_cons_self))).trans ha_S
                  have ha_X := (hX100_4 xx (hAB xx (List.mem_cons_of_mem _ (List.mem_cons_of_mem _ List.mem_cons_self)))).trans ha_X
                  have ha_Y := (hX100_4 yy (hAB yy (List.mem_cons_of_mem _ (List.mem_cons_of_mem _ (List.mem_cons_of_mem _ List.mem_cons_self))))).trans ha_Y
                  have ha_Z := (hX100_4 zz (hAB zz (List.mem_cons_of_mem _ (List.mem_cons_of_mem _ (List.mem_cons_of_mem _ (List.mem_cons_of_mem _ List.mem_cons_self)))))).trans ha_Z
                  obtain ⟨y100, rfl, hl100, hh100, hP100_0⟩ := hr100
                  try simp only [hz97.eq] at hP100_0
                  have hFv100_0 := hfv100_0.get hOfs100tr
                  try simp only [hz97.eq] at hfp100_0
                  have hzf100_0 : jEq fv100_0.toInt ((g6n55.toInt) + 1) := hfp100_0
                  clear hfp100_0
                  have hFv100_1 := hfv100_1.get hOfs100tr
                  try simp only [hz97.eq] at hfp100_1
                  have hsb100_1 : MT = fv100_1 := (jI_inj.mp hfp100_1).symm
                  subst hsb100_1
                  have hFv100_2 := hfv100_2.get hOfs100tr
                  try simp only [hz97.eq] at hfp100_2
                  have hsb100_2 : g = fv100_2 := (jI_inj.mp hfp100_2).symm
                  subst hsb100_2
                  obtain ⟨S100, hS100, hSn100, hSo100⟩ := hX100_0
                  obtain ⟨X100, hXa100, hXn100, hXo100⟩ := hX100_1
                  obtain ⟨Y100, hYa100, hYn100, hYo100⟩ := hX100_2
                  obtain ⟨Z100, hZa100, hZn100, hZo100⟩ := hX100_3
                  obtain ⟨hN_S100, hv_S100⟩ := WT_rngI (r := ((-2147483648), 2147483647)) hW id rfl hS100
                  clear hN_S100
                  obtain ⟨hN_X100, hv_X100⟩ := WT_rngI (r := ((-2147483648), 2147483647)) hW id rfl hXa100
                  clear hN_X100
                  obtain ⟨hN_Y100, hv_Y100⟩ := WT_rngI (r := ((-2147483648), 2147483647)) hW id rfl hYa100
                  clear hN_Y100
                  obtain ⟨hN_Z100, hv_Z100⟩ := WT_rngI (r := ((-2147483648), 2147483647)) hW id rfl hZa100
                  clear hN_Z100
                  refine Jz_if_ne (tgt := 109) jEq.rf dX6_pivot_103 (by decide) (fun c103 => ?_) (fun c103 => ?_)
                  · refine Jz_iinc 1 dX6_pivot_109 rfl rfl (by decide) jEq.rf (by decide) (by omega) (by omega) (fun y109 he109 => ?_)
                    refine J_goto (tgt := 55) dX6_pivot_112 (by decide) ?_
                    refine J.mask [true, true, true, true, true, true, false] ?_
                    exact ih55 _ y109 fs100tr fv100_0 S100 X100 Y100 Z100 hW he ha0 hb_md hb_tr hb_ro hb_s hb_xx hb_yy hb_zz hb_sT hb_xxT hb_yyT hb_zzT hfp hO_a0 hK_a0 hO_ro hK_ro hOfs100tr hFfs100tr_1 hFfs100tr_2 hFfs100tr_3 hFfs100tr_4 hFv100_1 hFv100_2 hFv100_0 hS100 hXa100 hYa100 hZa100 ha_S ha_X ha_Y ha_Z (by (try simp only [he109.eq, hzf100_0.eq, true_and, and_true]) <;> omega) (by (try simp only [he109.eq, hzf100_0.eq, true_and, and_true]) <;> omega) (fun j hj => by rw [hzf100_0.eq] at hj; by_cases c : (j : Int) = g6n55.toInt; (have e : j = g6n55.toInt.toNat := by omega); subst e; rw [hSn100, htp]; rw [hSo100 j (by omega)]; exact hts j (by omega)) (by rw [hzf100_0.eq, show (g6n55.toInt + 1).toNat = g6n55.toInt.toNat + 1 by omega]; exact hjv.lay (by rw [hXn100, htp]) (by rw [hYn100, htp]) (by rw [hZn100, htp]) hXo100 hYo100 hZo100) (by rw [hzf100_0.eq, show (g6n55.toInt + 1).toNat = g6n55.toInt.toNat + 1 by omega]; exact hcc) (by (try simp only [he109.eq, hzf100_0.eq, true_and, and_true]) <;> omega)
                  · exact False.elim (by omega)
                · refine J_iload dX6_pivot_84 rfl ?_
                  refine J_goto (tgt := 100) dX6_pivot_86 (by decide) ?_
                  have htp : (jTp g.toInt x3.toInt x2.toInt (fun q => (S q).toInt)) g6n55.toInt.toNat = y69.toInt := (by unfold jTp; first | (rw [if_pos (by omega), htn]; exact (hz69.eq).symm) | (rw [if_neg (by omega), htn]; exact (hz69.eq).symm))
                  have hbx := hjv.b g6n55.toInt.toNat (Nat.le_refl _)
                  have hcc : jav g.toInt (jTp g.toInt x3.toInt x2.toInt (fun q => (S q).toInt)) (g6n55.toInt.toNat + 1) := hp12.mono (by omega)
                  refine Jw_callV1 (q9 := (RX3, TX3, 7)) moX3_lay jw_ml_X6_72 jw_im_X3_lay jw_se_X3_lay hb_tr rfl rfl dX6_pivot_100 (w_X3_lay_yes (d - 1) _ tr y69 MT g g6n55 sT xxT yyT zzT F6n55 F34n55 F35n55 F36n55 (by omega) hW  hb_tr ⟨_, hOgs55tr, hFgs55tr_0⟩ ⟨_, hOgs55tr, hFgs55tr_5⟩ ⟨_, hOgs55tr, hFgs55tr_6⟩ ⟨_, hOgs55tr, hFgs55tr_1⟩ ⟨_, hOgs55tr, hFgs55tr_2⟩ ⟨_, hOgs55tr, hFgs55tr_3⟩ ⟨_, hOgs55tr, hFgs55tr_4⟩ hAF6n55 hAF34n55 hAF35n55 hAF36n55 (by omega) (by omega) (by omega) (by omega) (by omega) (by first | omega | (simp only [hz69.eq]; omega)) (by first | omega | (simp only [hz69.eq]; omega)) (by omega) (by omega) (by omega) (by omega) (by omega) (by omega) (by omega) (fun j hj q => (jav_succ.mp hcc).2 j (by omega) ((hjv.next (by omega)).mpr (by rw [htp]; exact q)))) (by omega) (Nat.zero_le _) (Nat.zero_le _) (Nat.le_of_ble_eq_true rfl) (fun r100 V100 h100 => ?_)
                  obtain ⟨h100, hX100_0, hX100_1, hX100_2, hX100_3, hX100_4, ⟨fv100_0, hfv100_0, hfp100_0⟩, ⟨fv100_1, hfv100_1, hfp100_1⟩, ⟨fv100_2, hfv100_2, hfp100_2⟩⟩ := h100
                  obtain ⟨hW, hx100, hr100⟩ := h100
                  have he := he.trans (hx100.sub (jsub_of rfl))
                  have hfp := hfp.trans (hX100_4.sub (fun b hb => by simp only [List.mem_cons, List.not_mem_nil, or_false] at hb ⊢; first | (rcases hb with h9 | h9 | h9 | h9 | h9 <;> simp only [h9, true_or, or_true]) | omega))
                  have ha0 := ha0.mono hx100.1
                  have hb_md := hb_md.mono hx100.1
                  have hb_tr := hb_tr.mono hx100.1
                  have hb_ro := hb_ro.mono hx100.1
                  have hb_s := hb_s.mono hx100.1
                  have hb_xx := hb_xx.mono hx100.1
                  have hb_yy := hb_yy.mono hx100.1
                  have hb_zz := hb_zz.mono hx100.1
                  have hb_sT := hb_sT.mono hx100.1
                  have hb_xxT := hb_xxT.mono hx100.1
                  have hb_yyT := hb_yyT.mono hx100.1
                  have hb_zzT := hb_zzT.mono hx100.1
                  have hO_a0 := hx100.2 _ _ hO_a0 (jnot_of rfl)
                  have hK_a0 := hK_a0.mono hx100.1
                  have hO_ro := (hX100_4 ro (hAB ro List.mem_cons_self)).trans hO_ro
                  have hK_ro := hK_ro.mono hx100.1
                  obtain ⟨fs100tr, hOfs100tr, hRfs100tr⟩ := hx100.1.keep hOgs55tr
                  have hKfs100tr : jokO _ (jFs 1) fs100tr := hW _ _ id hOfs100tr
                  have hFfs100tr_1 := hRfs100tr _ _ hFgs55tr_1
                  have hFfs100tr_2 := hRfs100tr _ _ hFgs55tr_2
                  have hFfs100tr_3 := hRfs100tr _ _ hFgs55tr_3
                  have hFfs100tr_4 := hRfs100tr _ _ hFgs55tr_4
                  have ha_S := (hX100_4 s (hAB s (List.mem_cons_of_mem _ List.mem_cons_self))).trans ha_S
                  have ha_X := (hX100_4 xx (hAB xx (List.mem_cons_of_mem _ (List.mem_cons_of_mem _ List.mem_cons_self)))).trans ha_X
                  have ha_Y := (hX100_4 yy (hAB yy (List.mem_cons_of_mem _ (List.mem_cons_of_mem _ (List.mem_cons_of_mem _ List.mem_cons_self))))).trans ha_Y
                  have ha_Z := (hX100_4 zz (hAB zz (List.mem_cons_of_mem _ (List.mem_cons_of_mem _ (List.mem_cons_of_mem _ (List.mem_cons_of_mem _ List.mem_cons_self)))))).trans ha_Z
                  obtain ⟨y100, rfl, hl100, hh100, hP100_0⟩ := hr100
                  try simp only [hz69.eq] at hP100_0
                  have hFv100_0 := hfv100_0.get hOfs100tr
                  try simp only [hz69.eq] at hfp100_0
                  have hzf100_0 : jEq fv100_0.toInt ((g6n55.toInt) + 1) := hfp100_0
                  clear hfp100_0
                  have hFv100_1 := hfv100_1.get hOfs100tr
                  try simp only [hz69.eq] at hfp100_1
                  have hsb100_1 : MT = fv100_1 := (jI_inj.mp hfp100_1).symm
                  subst hsb100_1
                  have hFv100_2 := hfv100_2.get hOfs100tr
                  try simp only [hz69.eq] at hfp100_2
                  have hsb100_2 : g = fv100_2 := (jI_inj.mp hfp100_2).symm
                  subst hsb100_2
                  obtain ⟨S100, hS100, hSn100, hSo100⟩ := hX100_0
                  obtain ⟨X100, hXa100, hXn100, hXo100⟩ := hX100_1
                  obtain ⟨Y100, hYa100, hYn100, hYo100⟩ := hX100_2
                  obtain ⟨Z100, hZa100, hZn100, hZo100⟩ := hX100_3
                  obtain ⟨hN_S100, hv_S100⟩ := WT_rngI (r := ((-2147483648), 2147483647)) hW id rfl hS100
                  clear hN_S100
                  obtain ⟨hN_X100, hv_X100⟩ := WT_rngI (r := ((-2147483648), 2147483647)) hW id rfl hXa100
                  clear hN_X100
                  obtain ⟨hN_Y100, hv_Y100⟩ := WT_rngI (r := ((-2147483648), 2147483647)) hW id rfl hYa100
                  clear hN_Y100
                  obtain ⟨hN_Z100, hv_Z100⟩ := WT_rngI (r := ((-2147483648), 2147483647)) hW id rfl hZa100
                  clear hN_Z100
                  refine Jz_if_ne (tgt := 109) jEq.rf dX6_pivot_103 (by decide) (fun c103 => ?_) (fun c103 => ?_)
                  · refine Jz_iinc 1 dX6_pivot_109 rfl rfl (by decide) jEq.rf (by decide) (by omega) (by omega) (fun y109 he109 => ?_)
                    refine J_goto (tgt := 55) dX6_pivot_112 (by decide) ?_
                    refine J.mask [true, true, true, true, true, true, false] ?_
                    exact ih55 _ y109 fs100tr fv100_0 S100 X100 Y100 Z100 hW he ha0 hb_md hb_tr hb_ro hb_s hb_xx hb_yy hb_zz hb_sT hb_xxT hb_yyT hb_zzT hfp hO_a0 hK_a0 hO_ro hK_ro hOfs100tr hFfs100tr_1 hFfs100tr_2 hFfs100tr_3 hFfs100tr_4 hFv100_1 hFv100_2 hFv100_0 hS100 hXa100 hYa100 hZa100 ha_S ha_X ha_Y ha_Z (by (try simp only [he109.eq, hzf100_0.eq, true_and, and_true]) <;> omega) (by (try simp only [he109.eq, hzf100_0.eq, true_and, and_true]) <;> omega) (fun j hj => by rw [hzf100_0.eq] at hj; by_cases c : (j : Int) = g6n55.toInt; (have e : j = g6n55.toInt.toNat := by omega); subst e; rw [hSn100, htp]; rw [hSo100 j (by omega)]; exact hts j (by omega)) (by rw [hzf100_0.eq, show (g6n55.toInt + 1).toNat = g6n55.toInt.toNat + 1 by omega]; exact hjv.lay (by rw [hXn100, htp]) (by rw [hYn100, htp]) (by rw [hZn100, htp]) hXo100 hYo100 hZo100) (by rw [hzf100_0.eq, show (g6n55.toInt + 1).toNat = g6n55.toInt.toNat + 1 by omega]; exact hcc) (by (try simp only [he109.eq, hzf100_0.eq, true_and, and_true]) <;> omega)
                  · exact False.elim (by omega)
          refine J.mask [true, true, true, true, true, true, false] ?_
          exact L55 _ _ y52 fs49tr fv49_2 ST XT YT ZT hW he ha0 hb_md hb_tr hb_ro hb_s hb_xx hb_yy hb_zz hb_sT hb_xxT hb_yyT hb_zzT hfp hO_a0 hK_a0 hO_ro hK_ro hOfs49tr hFfs49tr_1 hFfs49tr_2 hFfs49tr_3 hFfs49tr_4 hFv49_0 hFv49_1 hFv49_2 ha_ST ha_XT ha_YT ha_ZT ha_S ha_X ha_Y ha_Z (by (try simp only [he52.eq, hzf49_2.eq, true_and, and_true]) <;> omega) (by (try simp only [he52.eq, hzf49_2.eq, true_and, and_true]) <;> omega) (fun j hj => by rw [hzf49_2.eq] at hj; omega) (by rw [hzf49_2.eq]; intro i hi; rw [show i = 0 by omega]; exact ⟨hz0, hz1, hz2⟩) (by rw [hzf49_2.eq]; exact jav.zero) (Nat.lt_succ_self _)
        · exact False.elim (by omega)
set_option maxRecDepth 100000 in
set_option maxHeartbeats 8000000 in
theorem w_X6_join_out2 {tS : jTS} (d : Nat) (V0 : jH) (a0 : Nat) (x1 : Int32) (x2 : Int32) (k : Int32) (md : Nat) (f : Nat → Option Nat) (ro : Nat) (M : Int32) (g : Int32) (n : Int32) (s : Nat) (xx : Nat) (yy : Nat) (zz : Nat) (S : Nat → Int32) (X : Nat → Int32) (Y : Nat → Int32) (Z : Nat → Int32) (hd : 4 ≤ d) (hW : WT V0) (ha0 : jis V0 (.inr 4) a0) (hf_k : jfI V0 a0 4 1 k) (hr_md : jfR V0 a0 4 0 md) (ha_f : V0 md = some (.inl (4, 16, .inr (.inr (.inr (.inr f)))))) (hf_M : jfI V0 ro 1 0 M) (hf_g : jfI V0 ro 1 5 g) (hf_n : jfI V0 ro 1 6 n) (hr_s : jfR V0 ro 1 1 s) (hr_xx : jfR V0 ro 1 2 xx) (hr_yy : jfR V0 ro 1 3 yy) (hr_zz : jfR V0 ro 1 4 zz) (ha_S : V0 s = some (.inl (6, 60, .inl S))) (ha_X : V0 xx = some (.inl (34, 61, .inl X))) (ha_Y : V0 yy = some (.inl (35, 61, .inl Y))) (ha_Z : V0 zz = some (.inl (36, 61, .inl Z))) (hm_ro : M.toInt = 60) (hn_ro : n.toInt ≤ 60) (hfo : f x1.toInt.toNat = some ro) (hp0 : 0 ≤ x1.toInt) (hp1 : x1.toInt < k.toInt) (hp2 : ¬ (0 ≤ x2.toInt ∧ x2.toInt < k.toInt)) : jTot tS mX6_join d [.ref a0, .int x1, .int x2] V0 0 0 (fun r V => (fun r _ => ∃ y : Int32, r = some (.int y) ∧ ((-2147483648) ≤ y.toInt) ∧ (y.toInt ≤ 2147483647) ∧ (y.toInt = -2)) r V ∧ V = V0) := by
  refine jTot.of_J [some (.ref a0), some (.int x1), some (.int x2), none, none, none] moX6_join (Nat.le_of_ble_eq_true rfl) rfl ?_
  have hrx1 := j_rng x1
  have hrx2 := j_rng x2
  have he : jeff [] V0 V0 := jeff.refl _ _
  obtain ⟨fs_a0, hO_a0, hK_a0⟩ := WT_obj hW id ha0
  have hF_k := hf_k.get hO_a0
  have hrk : 0 ≤ k.toInt ∧ k.toInt ≤ 16 := jok_rngI hK_a0 rfl hF_k
  have hF_md := hr_md.get hO_a0
  obtain ⟨w_md, hFq_md, b_md, hbq_md, hb_md⟩ := hK_a0.2 0 (.inr (some (.inl 4))) rfl
  cases hF_md.symm.trans (hFq_md.trans (congrArg some hbq_md))
  have hb_ro : jis V0 (.inr 1) ro := by obtain ⟨q1, q2, q3⟩ := hf_M; exact ⟨_, q2, rfl⟩
  obtain ⟨fs_ro, hO_ro, hK_ro⟩ := WT_obj hW id hb_ro
  have hF_M := hf_M.get hO_ro
  have hrM : 0 ≤ M.toInt ∧ M.toInt ≤ 120 := jok_rngI hK_ro rfl hF_M
  have hF_g := hf_g.get hO_ro
  have hrg : (-2147483648) ≤ g.toInt ∧ g.toInt ≤ 2147483647 := jok_rngI hK_ro rfl hF_g
  have hF_n := hf_n.get hO_ro
  have hrn : 0 ≤ n.toInt ∧ n.toInt ≤ 120 := jok_rngI hK_ro rfl hF_n
  have hF_s := hr_s.get hO_ro
  have hb_s : jis V0 (.inl 6) s := ⟨_, ha_S, rfl⟩
  obtain ⟨hN_S, hv_S⟩ := WT_rngI (r := (-2147483648, 2147483647)) hW id rfl ha_S
  clear hN_S
  have hF_xx := hr_xx.get hO_ro
  have hb_xx : jis V0 (.inl 34) xx := ⟨_, ha_X, rfl⟩
  obtain ⟨hN_X, hv_X⟩ := WT_rngI (r := (-2147483648, 2147483647)) hW id rfl ha_X
  clear hN_X
  have hF_yy := hr_yy.get hO_ro
  have hb_yy : jis V0 (.inl 35) yy := ⟨_, ha_Y, rfl⟩
  obtain ⟨hN_Y, hv_Y⟩ := WT_rngI (r := (-2147483648, 2147483647)) hW id rfl ha_Y
  clear hN_Y
  have hF_zz := hr_zz.get hO_ro
  have hb_zz : jis V0 (.inl 36) zz := ⟨_, ha_Z, rfl⟩
  obtain ⟨hN_Z, hv_Z⟩ := WT_rngI (r := (-2147483648, 2147483647)) hW id rfl ha_Z
  clear hN_Z
  refine J_aload_n dX6_join_0 rfl ?_
  refine J_iload_n dX6_join_1 rfl ?_
  refine Jw_callV1 (q9 := (RX6, TX6, 7)) moX6_rowOf jw_ml_X6_55 jw_im_X6_rowOf jw_se_X6_rowOf ha0 rfl rfl dX6_join_2 (w_X6_rowOf_in (d - 1) _ a0 x1 hO_a0 hF_md hF_k ha_f (by omega) (by omega) (by omega) hfo) (by omega) (Nat.zero_le _) (Nat.zero_le _) (Nat.le_of_ble_eq_true rfl) (fun r2 V2 h2 => ?_)
  obtain ⟨rfl, hE2⟩ := h2
  have hE2 := hE2.symm
  subst hE2
  · refine J_astore_n dX6_join_5 rfl (by decide) ?_
    refine J_aload_n dX6_join_6 rfl ?_
    refine J_iload_n dX6_join_7 rfl ?_
    refine Jw_callV1 (q9 := (RX6, TX6, 7)) moX6_rowOf jw_ml_X6_55 jw_im_X6_rowOf jw_se_X6_rowOf ha0 rfl rfl dX6_join_8 (w_X6_rowOf_out (d - 1) _ a0 x2 hO_a0 hF_k (by omega)) (by omega) (Nat.zero_le _) (Nat.zero_le _) (Nat.le_of_ble_eq_true rfl) (fun r8 V8 h8 => ?_)
    obtain ⟨rfl, hE8⟩ := h8
    have hE8 := hE8.symm
    subst hE8
    · refine J_astoreN dX6_join_11 rfl (by decide) ?_
      refine J_aload_n dX6_join_13 rfl ?_
      refine J_ifnull dX6_join_14 ?_
      refine J_aloadN dX6_join_17 rfl ?_
      refine J_ifnonnullN dX6_join_19 ?_
      refine Jz_bipush (-2) dX6_join_22 (by decide) (fun y22 he22 => ?_)
      exact J_ret (r := some (.int _)) dX6_join_24 ⟨rfl, _, rfl, rfl⟩ (⟨⟨_, rfl, (j_rng _).1, (j_rng _).2, (by (try simp only [he22.eq, true_and, and_true]) <;> omega)⟩, rfl⟩)
set_option maxRecDepth 100000 in
set_option maxHeartbeats 8000000 in
theorem w_X6_join_dif {tS : jTS} (d : Nat) (V0 : jH) (a0 : Nat) (x1 : Int32) (x2 : Int32) (k : Int32) (md : Nat) (f : Nat → Option Nat) (ro : Nat) (M : Int32) (g : Int32) (n : Int32) (s : Nat) (xx : Nat) (yy : Nat) (zz : Nat) (S : Nat → Int32) (X : Nat → Int32) (Y : Nat → Int32) (Z : Nat → Int32) (rb : Nat) (MB : Int32) (gB : Int32) (nB : Int32) (sB : Nat) (xxB : Nat) (yyB : Nat) (zzB : Nat) (SB : Nat → Int32) (XB : Nat → Int32) (YB : Nat → Int32) (ZB : Nat → Int32) (hd : 4 ≤ d) (hW : WT V0) (ha0 : jis V0 (.inr 4) a0) (hf_k : jfI V0 a0 4 1 k) (hr_md : jfR V0 a0 4 0 md) (ha_f : V0 md = some (.inl (4, 16, .inr (.inr (.inr (.inr f)))))) (hf_M : jfI V0 ro 1 0 M) (hf_g : jfI V0 ro 1 5 g) (hf_n : jfI V0 ro 1 6 n) (hr_s : jfR V0 ro 1 1 s) (hr_xx : jfR V0 ro 1 2 xx) (hr_yy : jfR V0 ro 1 3 yy) (hr_zz : jfR V0 ro 1 4 zz) (ha_S : V0 s = some (.inl (6, 60, .inl S))) (ha_X : V0 xx = some (.inl (34, 61, .inl X))) (ha_Y : V0 yy = some (.inl (35, 61, .inl Y))) (ha_Z : V0 zz = some (.inl (36, 61, .inl Z))) (hm_ro : M.toInt = 60) (hn_ro : n.toInt ≤ 60) (hfo : f x1.toInt.toNat = some ro) (hf_MB : jfI V0 rb 1 0 MB) (hf_gB : jfI V0 rb 1 5 gB) (hf_nB : jfI V0 rb 1 6 nB) (hr_sB : jfR V0 rb 1 1 sB) (hr_xxB : jfR V0 rb 1 2 xxB) (hr_yyB : jfR V0 rb 1 3 yyB) (hr_zzB : jfR V0 rb 1 4 zzB) (ha_SB : V0 sB = some (.inl (6, 60, .inl SB))) (ha_XB : V0 xxB = some (.inl (34, 61, .inl XB))) (ha_YB : V0 yyB = some (.inl (35, 61, .inl YB))) (ha_ZB : V0 zzB = some (.inl (36, 61, .inl ZB))) (hm_rb : MB.toInt = 60) (hn_rb : nB.toInt ≤ 60) (hfb : f x2.toInt.toNat = some rb) (hp0 : 0 ≤ x1.toInt) (hp1 : x1.toInt < k.toInt) (hp2 : 0 ≤ x2.toInt) (hp3 : x2.toInt < k.toInt) (hp4 : ¬ g.toInt = gB.toInt) : jTot tS mX6_join d [.ref a0, .int x1, .int x2] V0 0 0 (fun r V => (fun r _ => ∃ y : Int32, r = some (.int y) ∧ ((-2147483648) ≤ y.toInt) ∧ (y.toInt ≤ 2147483647) ∧ (y.toInt = -3)) r V ∧ V = V0) := by
  refine jTot.of_J [some (.ref a0), some (.int x1), some (.int x2), none, none, none] moX6_join (Nat.le_of_ble_eq_true rfl) rfl ?_
  have hrx1 := j_rng x1
  have hrx2 := j_rng x2
  have he : jeff [] V0 V0 := jeff.refl _ _
  obtain ⟨fs_a0, hO_a0, hK_a0⟩ := WT_obj hW id ha0
  have hF_k := hf_k.get hO_a0
  have hrk : 0 ≤ k.toInt ∧ k.toInt ≤ 16 := jok_rngI hK_a0 rfl hF_k
  have hF_md := hr_md.get hO_a0
  obtain ⟨w_md, hFq_md, b_md, hbq_md, hb_md⟩ := hK_a0.2 0 (.inr (some (.inl 4))) rfl
  cases hF_md.symm.trans (hFq_md.trans (congrArg some hbq_md))
  have hb_ro : jis V0 (.inr 1) ro := by obtain ⟨q1, q2, q3⟩ := hf_M; exact ⟨_, q2, rfl⟩
  obtain ⟨fs_ro, hO_ro, hK_ro⟩ := WT_obj hW id hb_ro
  have hF_M := hf_M.get hO_ro
  have hrM : 0 ≤ M.toInt ∧ M.toInt ≤ 120 := jok_rngI hK_ro rfl hF_M
  have hF_g := hf_g.get hO_ro
  have hrg : (-2147483648) ≤ g.toInt ∧ g.toInt ≤ 2147483647 := jok_rngI hK_ro rfl hF_g
  have hF_n := hf_n.get hO_ro
  have hrn : 0 ≤ n.toInt ∧ n.toInt ≤ 120 := jok_rngI hK_ro rfl hF_n
  have hF_s := hr_s.get hO_ro
  have hb_s : jis V0 (.inl 6) s := ⟨_, ha_S, rfl⟩
  obtain ⟨hN_S, hv_S⟩ := WT_rngI (r := (-2147483648, 2147483647)) hW id rfl ha_S
  clear hN_S
  have hF_xx := hr_xx.get hO_ro
  have hb_xx : jis V0 (.inl 34) xx := ⟨_, ha_X, rfl⟩
  obtain ⟨hN_X, hv_X⟩ := WT_rngI (r := (-2147483648, 2147483647)) hW id rfl ha_X
  clear hN_X
  have hF_yy := hr_yy.get hO_ro
  have hb_yy : jis V0 (.inl 35) yy := ⟨_, ha_Y, rfl⟩
  obtain ⟨hN_Y, hv_Y⟩ := WT_rngI (r := (-2147483648, 2147483647)) hW id rfl ha_Y
  clear hN_Y
  have hF_zz := hr_zz.get hO_ro
  have hb_zz : jis V0 (.inl 36) zz := ⟨_, ha_Z, rfl⟩
  obtain ⟨hN_Z, hv_Z⟩ := WT_rngI (r := (-2147483648, 2147483647)) hW id rfl ha_Z
  clear hN_Z
  have hb_rb : jis V0 (.inr 1) rb := by obtain ⟨q1, q2, q3⟩ := hf_MB; exact ⟨_, q2, rfl⟩
  obtain ⟨fs_rb, hO_rb, hK_rb⟩ := WT_obj hW id hb_rb
  have hF_MB := hf_MB.get hO_rb
  have hrMB : 0 ≤ MB.toInt ∧ MB.toInt ≤ 120 := jok_rngI hK_rb rfl hF_MB
  have hF_gB := hf_gB.get hO_rb
  have hrgB : (-2147483648) ≤ gB.toInt ∧ gB.toInt ≤ 2147483647 := jok_rngI hK_rb rfl hF_gB
  have hF_nB := hf_nB.get hO_rb
  have hrnB : 0 ≤ nB.toInt ∧ nB.toInt ≤ 120 := jok_rngI hK_rb rfl hF_nB
  have hF_sB := hr_sB.get hO_rb
  have hb_sB : jis V0 (.inl 6) sB := ⟨_, ha_SB, rfl⟩
  obtain ⟨hN_SB, hv_SB⟩ := WT_rngI (r := (-2147483648, 2147483647)) hW id rfl ha_SB
  clear hN_SB
  have hF_xxB := hr_xxB.get hO_rb
  have hb_xxB : jis V0 (.inl 34) xxB := ⟨_, ha_XB, rfl⟩
  obtain ⟨hN_XB, hv_XB⟩ := WT_rngI (r := (-2147483648, 2147483647)) hW id rfl ha_XB
  clear hN_XB
  have hF_yyB := hr_yyB.get hO_rb
  have hb_yyB : jis V0 (.inl 35) yyB := ⟨_, ha_YB, rfl⟩
  obtain ⟨hN_YB, hv_YB⟩ := WT_rngI (r := (-2147483648, 2147483647)) hW id rfl ha_YB
  clear hN_YB
  have hF_zzB := hr_zzB.get hO_rb
  have hb_zzB : jis V0 (.inl 36) zzB := ⟨_, ha_ZB, rfl⟩
  obtain ⟨hN_ZB, hv_ZB⟩ := WT_rngI (r := (-2147483648, 2147483647)) hW id rfl ha_ZB
  clear hN_ZB
  refine J_aload_n dX6_join_0 rfl ?_
  refine J_iload_n dX6_join_1 rfl ?_
  refine Jw_callV1 (q9 := (RX6, TX6, 7)) moX6_rowOf jw_ml_X6_55 jw_im_X6_rowOf jw_se_X6_rowOf ha0 rfl rfl dX6_join_2 (w_X6_rowOf_in (d - 1) _ a0 x1 hO_a0 hF_md hF_k ha_f (by omega) (by omega) (by omega) hfo) (by omega) (Nat.zero_le _) (Nat.zero_le _) (Nat.le_of_ble_eq_true rfl) (fun r2 V2 h2 => ?_)
  obtain ⟨rfl, hE2⟩ := h2
  have hE2 := hE2.symm
  subst hE2
  · refine J_astore_n dX6_join_5 rfl (by decide) ?_
    refine J_aload_n dX6_join_6 rfl ?_
    refine J_iload_n dX6_join_7 rfl ?_
    refine Jw_callV1 (q9 := (RX6, TX6, 7)) moX6_rowOf jw_ml_X6_55 jw_im_X6_rowOf jw_se_X6_rowOf ha0 rfl rfl dX6_join_8 (w_X6_rowOf_in (d - 1) _ a0 x2 hO_a0 hF_md hF_k ha_f (by omega) (by omega) (by omega) hfb) (by omega) (Nat.zero_le _) (Nat.zero_le _) (Nat.le_of_ble_eq_true rfl) (fun r8 V8 h8 => ?_)
    obtain ⟨rfl, hE8⟩ := h8
    have hE8 := hE8.symm
    subst hE8
    · refine J_astore dX6_join_11 rfl (by decide) ?_
      refine J_aload_n dX6_join_13 rfl ?_
      refine J_ifnull dX6_join_14 ?_
      refine J_aload dX6_join_17 rfl ?_
      refine J_ifnonnull (tgt := 25) dX6_join_19 (by decide) ?_
      refine J_aload_n dX6_join_25 rfl ?_
      refine J_get jf_X6_59 dX6_join_26 hO_ro hF_g ?_
      refine J_aload dX6_join_29 rfl ?_
      refine J_get jf_X6_59 dX6_join_31 hO_rb hF_gB ?_
      refine Jz_icmp_eq (tgt := 40) jEq.rf jEq.rf dX6_join_34 (by decide) (fun c34 => ?_) (fun c34 => ?_)
      · exact False.elim (by omega)
      · refine Jz_bipush (-3) dX6_join_37 (by decide) (fun y37 he37 => ?_)
        exact J_ret (r := some (.int _)) dX6_join_39 ⟨rfl, _, rfl, rfl⟩ (⟨⟨_, rfl, (j_rng _).1, (j_rng _).2, (by (try simp only [he37.eq, true_and, and_true]) <;> omega)⟩, rfl⟩)
set_option maxRecDepth 100000 in
set_option maxHeartbeats 8000000 in
theorem w_X6_join_no {tS : jTS} (d : Nat) (V0 : jH) (a0 : Nat) (x1 : Int32) (x2 : Int32) (k : Int32) (md : Nat) (tr : Nat) (f : Nat → Option Nat) (ro : Nat) (M : Int32) (g : Int32) (n : Int32) (s : Nat) (xx : Nat) (yy : Nat) (zz : Nat) (S : Nat → Int32) (X : Nat → Int32) (Y : Nat → Int32) (Z : Nat → Int32) (rb : Nat) (MB : Int32) (gB : Int32) (nB : Int32) (sB : Nat) (xxB : Nat) (yyB : Nat) (zzB : Nat) (SB : Nat → Int32) (XB : Nat → Int32) (YB : Nat → Int32) (ZB : Nat → Int32) (MT : Int32) (gT : Int32) (nT : Int32) (sT : Nat) (xxT : Nat) (yyT : Nat) (zzT : Nat) (ST : Nat → Int32) (XT : Nat → Int32) (YT : Nat → Int32) (ZT : Nat → Int32) (hd : 4 ≤ d) (hW : WT V0) (ha0 : jis V0 (.inr 4) a0) (hf_k : jfI V0 a0 4 1 k) (hr_md : jfR V0 a0 4 0 md) (hr_tr : jfR V0 a0 4 2 tr) (ha_f : V0 md = some (.inl (4, 16, .inr (.inr (.inr (.inr f)))))) (hf_M : jfI V0 ro 1 0 M) (hf_g : jfI V0 ro 1 5 g) (hf_n : jfI V0 ro 1 6 n) (hr_s : jfR V0 ro 1 1 s) (hr_xx : jfR V0 ro 1 2 xx) (hr_yy : jfR V0 ro 1 3 yy) (hr_zz : jfR V0 ro 1 4 zz) (ha_S : V0 s = some (.inl (6, 60, .inl S))) (ha_X : V0 xx = some (.inl (34, 61, .inl X))) (ha_Y : V0 yy = some (.inl (35, 61, .inl Y))) (ha_Z : V0 zz = some (.inl (36, 61, .inl Z))) (hm_ro : M.toInt = 60) (hn_ro : n.toInt ≤ 60) (hfo : f x1.toInt.toNat = some ro) (hf_MB : jfI V0 rb 1 0 MB) (hf_gB : jfI V0 rb 1 5 gB) (hf_nB : jfI V0 rb 1 6 nB) (hr_sB : jfR V0 rb 1 1 sB) (hr_xxB : jfR V0 rb 1 2 xxB) (hr_yyB : jfR V0 rb 1 3 yyB) (hr_zzB : jfR V0 rb 1 4 zzB) (ha_SB : V0 sB = some (.inl (6, 60, .inl SB))) (ha_XB : V0 xxB = some (.inl (34, 61, .inl XB))) (ha_YB : V0 yyB = some (.inl (35, 61, .inl YB))) (ha_ZB : V0 zzB = some (.inl (36, 61, .inl ZB))) (hm_rb : MB.toInt = 60) (hn_rb : nB.toInt ≤ 60) (hfb : f x2.toInt.toNat = some rb) (hf_MT : jfI V0 tr 1 0 MT) (hf_gT : jfI V0 tr 1 5 gT) (hf_nT : jfI V0 tr 1 6 nT) (hr_sT : jfR V0 tr 1 1 sT) (hr_xxT : jfR V0 tr 1 2 xxT) (hr_yyT : jfR V0 tr 1 3 yyT) (hr_zzT : jfR V0 tr 1 4 zzT) (ha_ST : V0 sT = some (.inl (6, 120, .inl ST))) (ha_XT : V0 xxT = some (.inl (34, 121, .inl XT))) (ha_YT : V0 yyT = some (.inl (35, 121, .inl YT))) (ha_ZT : V0 zzT = some (.inl (36, 121, .inl ZT))) (hm_tr : MT.toInt = 120) (hn_tr : nT.toInt ≤ 120) (hAB : ∀ b ∈ [ro, s, xx, yy, zz], b ∉ [tr, sT, xxT, yyT, zzT]) (hBA : ∀ b ∈ [tr, sT, xxT, yyT, zzT], b ∉ [ro, s, xx, yy, zz]) (hCB : ∀ b ∈ [rb, sB, xxB, yyB, zzB], b ∉ [tr, sT, xxT, yyT, zzT]) (hp0 : 0 ≤ x1.toInt) (hp1 : x1.toInt < k.toInt) (hp2 : 0 ≤ x2.toInt) (hp3 : x2.toInt < k.toInt) (hp4 : 0 ≤ g.toInt) (hp5 : g.toInt ≤ 3) (hp6 : g.toInt = gB.toInt) (hp7 : ∀ j : Nat, (j : Int) < nB.toInt → 0 ≤ (SB j).toInt ∧ (SB j).toInt < jdir gB.toInt) (hp8 : (XT 0).toInt = 0) (hp9 : (YT 0).toInt = 0) (hp10 : (ZT 0).toInt = 0) (hp11 : jrv g.toInt (fun q => (S q).toInt) n.toInt.toNat X Y Z) (hp12 : jav g.toInt (fun q => (S q).toInt) n.toInt.toNat) (hp13 : ¬ jav g.toInt (jTj (fun q => (S q).toInt) n.toInt.toNat (fun q => (SB q).toInt)) (n.toInt + nB.toInt).toNat) : jTot tS mX6_join d [.ref a0, .int x1, .int x2] V0 0 0 (fun r V => (jPost [.inr 1, .inl 6, .inl 34, .inl 35, .inl 36] V0 (fun r _ => ∃ y : Int32, r = some (.int y) ∧ ((-2147483648) ≤ y.toInt) ∧ (y.toInt ≤ 2147483647) ∧ (y.toInt = -3))) r V ∧ (∃ (g2 n2 : Int) (S2 X2 Y2 Z2 : Nat → Int32), jrw V tr sT xxT yyT zzT 120 g2 n2 S2 X2 Y2 Z2 ∧ (X2 0).toInt = 0 ∧ (Y2 0).toInt = 0 ∧ (Z2 0).toInt = 0) ∧ jfp [tr, sT, xxT, yyT, zzT] V0 V) := by
  refine jTot.of_J [some (.ref a0), some (.int x1), some (.int x2), none, none, none] moX6_join (Nat.le_of_ble_eq_true rfl) rfl ?_
  have hrx1 := j_rng x1
  have hrx2 := j_rng x2
  have he : jeff [.inr 1, .inl 6, .inl 34, .inl 35, .inl 36] V0 V0 := jeff.refl _ _
  have hfp : jfp [tr, sT, xxT, yyT, zzT] V0 V0 := jfp.rf
  obtain ⟨fs_a0, hO_a0, hK_a0⟩ := WT_obj hW id ha0
  have hF_k := hf_k.get hO_a0
  have hrk : 0 ≤ k.toInt ∧ k.toInt ≤ 16 := jok_rngI hK_a0 rfl hF_k
  have hF_md := hr_md.get hO_a0
  obtain ⟨w_md, hFq_md, b_md, hbq_md, hb_md⟩ := hK_a0.2 0 (.inr (some (.inl 4))) rfl
  cases hF_md.symm.trans (hFq_md.trans (congrArg some hbq_md))
  have hF_tr := hr_tr.get hO_a0
  obtain ⟨w_tr, hFq_tr, b_tr, hbq_tr, hb_tr⟩ := hK_a0.2 2 (.inr (some (.inr 1))) rfl
  cases hF_tr.symm.trans (hFq_tr.trans (congrArg some hbq_tr))
  have hb_ro : jis V0 (.inr 1) ro := by obtain ⟨q1, q2, q3⟩ := hf_M; exact ⟨_, q2, rfl⟩
  obtain ⟨fs_ro, hO_ro, hK_ro⟩ := WT_obj hW id hb_ro
  have hF_M := hf_M.get hO_ro
  have hrM : 0 ≤ M.toInt ∧ M.toInt ≤ 120 := jok_rngI hK_ro rfl hF_M
  have hF_g := hf_g.get hO_ro
  have hrg : (-2147483648) ≤ g.toInt ∧ g.toInt ≤ 2147483647 := jok_rngI hK_ro rfl hF_g
  have hF_n := hf_n.get hO_ro
  have hrn : 0 ≤ n.toInt ∧ n.toInt ≤ 120 := jok_rngI hK_ro rfl hF_n
  have hF_s := hr_s.get hO_ro
  have hb_s : jis V0 (.inl 6) s := ⟨_, ha_S, rfl⟩
  obtain ⟨hN_S, hv_S⟩ := WT_rngI (r := (-2147483648, 2147483647)) hW id rfl ha_S
  clear hN_S
  have hF_xx := hr_xx.get hO_ro
  have hb_xx : jis V0 (.inl 34) xx := ⟨_, ha_X, rfl⟩
  obtain ⟨hN_X, hv_X⟩ := WT_rngI (r := (-2147483648, 2147483647)) hW id rfl ha_X
  clear hN_X
  have hF_yy := hr_yy.get hO_ro
  have hb_yy : jis V0 (.inl 35) yy := ⟨_, ha_Y, rfl⟩
  obtain ⟨hN_Y, hv_Y⟩ := WT_rngI (r := (-2147483648, 2147483647)) hW id rfl ha_Y
  clear hN_Y
  have hF_zz := hr_zz.get hO_ro
  have hb_zz : jis V0 (.inl 36) zz := ⟨_, ha_Z, rfl⟩
  obtain ⟨hN_Z, hv_Z⟩ := WT_rngI (r := (-2147483648, 2147483647)) hW id rfl ha_Z
  clear hN_Z
  have hb_rb : jis V0 (.inr 1) rb := by obtain ⟨q1, q2, q3⟩ := hf_MB; exact ⟨_, q2, rfl⟩
  obtain ⟨fs_rb, hO_rb, hK_rb⟩ := WT_obj hW id hb_rb
  have hF_MB := hf_MB.get hO_rb
  have hrMB : 0 ≤ MB.toInt ∧ MB.toInt ≤ 120 := jok_rngI hK_rb rfl hF_MB
  have hF_gB := hf_gB.get hO_rb
  have hrgB : (-2147483648) ≤ gB.toInt ∧ gB.toInt ≤ 2147483647 := jok_rngI hK_rb rfl hF_gB
  have hF_nB := hf_nB.get hO_rb
  have hrnB : 0 ≤ nB.toInt ∧ nB.toInt ≤ 120 := jok_rngI hK_rb rfl hF_nB
  have hF_sB := hr_sB.get hO_rb
  have hb_sB : jis V0 (.inl 6) sB := ⟨_, ha_SB, rfl⟩
  obtain ⟨hN_SB, hv_SB⟩ := WT_rngI (r := (-2147483648, 2147483647)) hW id rfl ha_SB
  clear hN_SB
  have hF_xxB := hr_xxB.get hO_rb
  have hb_xxB : jis V0 (.inl 34) xxB := ⟨_, ha_XB, rfl⟩
  obtain ⟨hN_XB, hv_XB⟩ := WT_rngI (r := (-2147483648, 2147483647)) hW id rfl ha_XB
  clear hN_XB
  have hF_yyB := hr_yyB.get hO_rb
  have hb_yyB : jis V0 (.inl 35) yyB := ⟨_, ha_YB, rfl⟩
  obtain ⟨hN_YB, hv_YB⟩ := WT_rngI (r := (-2147483648, 2147483647)) hW id rfl ha_YB
  clear hN_YB
  have hF_zzB := hr_zzB.get hO_rb
  have hb_zzB : jis V0 (.inl 36) zzB := ⟨_, ha_ZB, rfl⟩
  obtain ⟨hN_ZB, hv_ZB⟩ := WT_rngI (r := (-2147483648, 2147483647)) hW id rfl ha_ZB
  clear hN_ZB
  obtain ⟨fs_tr, hO_tr, hK_tr⟩ := WT_obj hW id hb_tr
  have hF_MT := hf_MT.get hO_tr
  have hrMT : 0 ≤ MT.toInt ∧ MT.toInt ≤ 120 := jok_rngI hK_tr rfl hF_MT
  have hF_gT := hf_gT.get hO_tr
  have hrgT : (-2147483648) ≤ gT.toInt ∧ gT.toInt ≤ 2147483647 := jok_rngI hK_tr rfl hF_gT
  have hF_nT := hf_nT.get hO_tr
  have hrnT : 0 ≤ nT.toInt ∧ nT.toInt ≤ 120 := jok_rngI hK_tr rfl hF_nT
  have hF_sT := hr_sT.get hO_tr
  have hb_sT : jis V0 (.inl 6) sT := ⟨_, ha_ST, rfl⟩
  obtain ⟨hN_ST, hv_ST⟩ := WT_rngI (r := (-2147483648, 2147483647)) hW id rfl ha_ST
  clear hN_ST
  have hF_xxT := hr_xxT.get hO_tr
  have hb_xxT : jis V0 (.inl 34) xxT := ⟨_, ha_XT, rfl⟩
  obtain ⟨hN_XT, hv_XT⟩ := WT_rngI (r := (-2147483648, 2147483647)) hW id rfl ha_XT
  clear hN_XT
  have hF_yyT := hr_yyT.get hO_tr
  have hb_yyT : jis V0 (.inl 35) yyT := ⟨_, ha_YT, rfl⟩
  obtain ⟨hN_YT, hv_YT⟩ := WT_rngI (r := (-2147483648, 2147483647)) hW id rfl ha_YT
  clear hN_YT
  have hF_zzT := hr_zzT.get hO_tr
  have hb_zzT : jis V0 (.inl 36) zzT := ⟨_, ha_ZT, rfl⟩
  obtain ⟨hN_ZT, hv_ZT⟩ := WT_rngI (r := (-2147483648, 2147483647)) hW id rfl ha_ZT
  clear hN_ZT
  refine J_aload_n dX6_join_0 rfl ?_
  refine J_iload_n dX6_join_1 rfl ?_
  refine Jw_callV1 (q9 := (RX6, TX6, 7)) moX6_rowOf jw_ml_X6_55 jw_im_X6_rowOf jw_se_X6_rowOf ha0 rfl rfl dX6_join_2 (w_X6_rowOf_in (d - 1) _ a0 x1 hO_a0 hF_md hF_k ha_f (by omega) (by omega) (by omega) hfo) (by omega) (Nat.zero_le _) (Nat.zero_le _) (Nat.le_of_ble_eq_true rfl) (fun r2 V2 h2 => ?_)
  obtain ⟨rfl, hE2⟩ := h2
  have hE2 := hE2.symm
  subst hE2
  · refine J_astore_n dX6_join_5 rfl (by decide) ?_
    refine J_aload_n dX6_join_6 rfl ?_
    refine J_iload_n dX6_join_7 rfl ?_
    refine Jw_callV1 (q9 := (RX6, TX6, 7)) moX6_rowOf jw_ml_X6_55 jw_im_X6_rowOf jw_se_X6_rowOf ha0 rfl rfl dX6_join_8 (w_X6_rowOf_in (d - 1) _ a0 x2 hO_a0 hF_md hF_k ha_f (by omega) (by omega) (by omega) hfb) (by omega) (Nat.zero_le _) (Nat.zero_le _) (Nat.le_of_ble_eq_true rfl) (fun r8 V8 h8 => ?_)
    obtain ⟨rfl, hE8⟩ := h8
    have hE8 := hE8.symm
    subst hE8
    · refine J_astore dX6_join_11 rfl (by decide) ?_
      refine J_aload_n dX6_join_13 rfl ?_
      refine J_ifnull dX6_join_14 ?_
      refine J_aload dX6_join_17 rfl ?_
      refine J_ifnonnull (tgt := 25) dX6_join_19 (by decide) ?_
      refine J_aload_n dX6_join_25 rfl ?_
      refine J_get jf_X6_59 dX6_join_26 hO_ro hF_g ?_
      refine J_aload dX6_join_29 rfl ?_
      refine J_get jf_X6_59 dX6_join_31 hO_rb hF_gB ?_
      refine Jz_icmp_eq (tgt := 40) jEq.rf jEq.rf dX6_join_34 (by decide) (fun c34 => ?_) (fun c34 => ?_)
      · refine J_aload_n dX6_join_40 rfl ?_
        refine J_get jf_X6_22 dX6_join_41 hO_a0 hF_tr ?_
        refine J_aload_n dX6_join_44 rfl ?_
        have hdc := jdir_cases g.toInt
        refine Jw_callV1 (q9 := (RX3, TX3, 7)) moX3_become jw_ml_X6_89 jw_im_X3_become jw_se_X3_become hb_tr rfl rfl dX6_join_45 (w_X3_become_z (d - 1) _ tr ro MT g n sT xxT yyT zzT s xx yy zz ST XT YT ZT S X Y Z (by omega) hW  hb_tr hb_ro ⟨_, hO_tr, hF_MT⟩ ⟨_, hO_ro, hF_g⟩ ⟨_, hO_ro, hF_n⟩ ⟨_, hO_tr, hF_sT⟩ ⟨_, hO_tr, hF_xxT⟩ ⟨_, hO_tr, hF_yyT⟩ ⟨_, hO_tr, hF_zzT⟩ ⟨_, hO_ro, hF_s⟩ ⟨_, hO_ro, hF_xx⟩ ⟨_, hO_ro, hF_yy⟩ ⟨_, hO_ro, hF_zz⟩ (fun e => hAB ro List.mem_cons_self (e ▸ List.mem_cons_self)) (fun e => hAB s (List.mem_cons_of_mem _ List.mem_cons_self) (e ▸ (List.mem_cons_of_mem _ List.mem_cons_self))) (fun e => hAB xx (List.mem_cons_of_mem _ (List.mem_cons_of_mem _ List.mem_cons_self)) (e ▸ (List.mem_cons_of_mem _ (List.mem_cons_of_mem _ List.mem_cons_self)))) (fun e => hAB yy (List.mem_cons_of_mem _ (List.mem_cons_of_mem _ (List.mem_cons_of_mem _ List.mem_cons_self))) (e ▸ (List.mem_cons_of_mem _ (List.mem_cons_of_mem _ (List.mem_cons_of_mem _ List.mem_cons_self))))) (fun e => hAB zz (List.mem_cons_of_mem _ (List.mem_cons_of_mem _ (List.mem_cons_of_mem _ (List.mem_cons_of_mem _ List.mem_cons_self)))) (e ▸ (List.mem_cons_of_mem _ (List.mem_cons_of_mem _ (List.mem_cons_of_mem _ (List.mem_cons_of_mem _ List.mem_cons_self)))))) ha_ST ha_XT ha_YT ha_ZT ha_S ha_X ha_Y ha_Z (by omega) (by omega) (by omega) (by omega) (by omega)) (by omega) (Nat.zero_le _) (Nat.zero_le _) (Nat.le_of_ble_eq_true rfl) (fun r45 V45 h45 => ?_)
        obtain ⟨h45, hX45_0, hX45_1, hX45_2, hX45_3, hX45_4, ⟨fv45_0, hfv45_0, hfp45_0⟩, ⟨fv45_1, hfv45_1, hfp45_1⟩, ⟨fv45_2, hfv45_2, hfp45_2⟩⟩ := h45
        obtain ⟨hW, hx45, hr45⟩ := h45
        have he := he.trans (hx45.sub (jsub_of rfl))
        have hfp := hfp.trans (hX45_4.sub (fun b hb => by simp only [List.mem_cons, List.not_mem_nil, or_false] at hb ⊢; first | (rcases hb with h9 | h9 | h9 | h9 | h9 <;> simp only [h9, true_or, or_true]) | omega))
        have ha0 := ha0.mono hx45.1
        have hb_md := hb_md.mono hx45.1
        have hb_tr := hb_tr.mono hx45.1
        have hb_ro := hb_ro.mono hx45.1
        have hb_s := hb_s.mono hx45.1
        have hb_xx := hb_xx.mono hx45.1
        have hb_yy := hb_yy.mono hx45.1
        have hb_zz := hb_zz.mono hx45.1
        have hb_rb := hb_rb.mono hx45.1
        have hb_sB := hb_sB.mono hx45.1
        have hb_xxB := hb_xxB.mono hx45.1
        have hb_yyB := hb_yyB.mono hx45.1
        have hb_zzB := hb_zzB.mono hx45.1
        have hb_sT := hb_sT.mono hx45.1
        have hb_xxT := hb_xxT.mono hx45.1
        have hb_yyT := hb_yyT.mono hx45.1
        have hb_zzT := hb_zzT.mono hx45.1
        have hO_a0 := hx45.2 _ _ hO_a0 (jnot_of rfl)
        have hK_a0 := hK_a0.mono hx45.1
        have hO_ro := (hX45_4 ro (hAB ro List.mem_cons_self)).trans hO_ro
        have hK_ro := hK_ro.mono hx45.1
        have hO_rb := (hX45_4 rb (hCB rb List.mem_cons_self)).trans hO_rb
        have hK_rb := hK_rb.mono hx45.1
        obtain ⟨fs45tr, hOfs45tr, hRfs45tr⟩ := hx45.1.keep hO_tr
        have hKfs45tr : jokO _ (jFs 1) fs45tr := hW _ _ id hOfs45tr
        have hFfs45tr_1 := hRfs45tr _ _ hF_sT
        have hFfs45tr_2 := hRfs45tr _ _ hF_xxT
        have hFfs45tr_3 := hRfs45tr _ _ hF_yyT
        have hFfs45tr_4 := hRfs45tr _ _ hF_zzT
        have ha_S := (hX45_4 s (hAB s (List.mem_cons_of_mem _ List.mem_cons_self))).trans ha_S
        have ha_X := (hX45_4 xx (hAB xx (List.mem_cons_of_mem _ (List.mem_cons_of_mem _ List.mem_cons_self)))).trans ha_X
        have ha_Y := (hX45_4 yy (hAB yy (List.mem_cons_of_mem _ (List.mem_cons_of_mem _ (List.mem_cons_of_mem _ List.mem_cons_self))))).trans ha_Y
        have ha_Z := (hX45_4 zz (hAB zz (List.mem_cons_of_mem _ (List.mem_cons_of_mem _ (List.mem_cons_of_mem _ (List.mem_cons_of_mem _ List.mem_cons_self)))))).trans ha_Z
        have ha_SB := (hX45_4 sB (hCB sB (List.mem_cons_of_mem _ List.mem_cons_self))).trans ha_SB
        have ha_XB := (hX45_4 xxB (hCB xxB (List.mem_cons_of_mem _ (List.mem_cons_of_mem _ List.mem_cons_self)))).trans ha_XB
        have ha_YB := (hX45_4 yyB (hCB yyB (List.mem_cons_of_mem _ (List.mem_cons_of_mem _ (List.mem_cons_of_mem _ List.mem_cons_self))))).trans ha_YB
        have ha_ZB := (hX45_4 zzB (hCB zzB (List.mem_cons_of_mem _ (List.mem_cons_of_mem _ (List.mem_cons_of_mem _ (List.mem_cons_of_mem _ List.mem_cons_self)))))).trans ha_ZB
        cases hr45
        have hFv45_0 := hfv45_0.get hOfs45tr
        have hsb45_0 : MT = fv45_0 := (jI_inj.mp hfp45_0).symm
        subst hsb45_0
        have hFv45_1 := hfv45_1.get hOfs45tr
        have hsb45_1 : g = fv45_1 := (jI_inj.mp hfp45_1).symm
        subst hsb45_1
        have hFv45_2 := hfv45_2.get hOfs45tr
        have hsb45_2 : n = fv45_2 := (jI_inj.mp hfp45_2).symm
        subst hsb45_2
        obtain ⟨S45, hS45, hSe45⟩ := hX45_0
        obtain ⟨X45, hXa45, hXe45⟩ := hX45_1
        obtain ⟨Y45, hYa45, hYe45⟩ := hX45_2
        obtain ⟨Z45, hZa45, hZe45⟩ := hX45_3
        obtain ⟨hN_S45, hv_S45⟩ := WT_rngI (r := ((-2147483648), 2147483647)) hW id rfl hS45
        clear hN_S45
        obtain ⟨hN_X45, hv_X45⟩ := WT_rngI (r := ((-2147483648), 2147483647)) hW id rfl hXa45
        clear hN_X45
        obtain ⟨hN_Y45, hv_Y45⟩ := WT_rngI (r := ((-2147483648), 2147483647)) hW id rfl hYa45
        clear hN_Y45
        obtain ⟨hN_Z45, hv_Z45⟩ := WT_rngI (r := ((-2147483648), 2147483647)) hW id rfl hZa45
        clear hN_Z45
        refine Jz_iconst 0 dX6_join_48 (by decide) (fun y48 he48 => ?_)
        refine J_istore dX6_join_49 rfl (by decide) ?_
        have L51 : ∀ (N : Nat) (V : jH) (i5n51 : Int32) (gs51tr : List Value) (g6n51 : Int32) (F6n51 : Nat → Int32) (F34n51 : Nat → Int32) (F35n51 : Nat → Int32) (F36n51 : Nat → Int32), WT V → jeff [.inr 1, .inl 6, .inl 34, .inl 35, .inl 36] V0 V → (jis V (.inr 4) a0) → (jis V (.inl 4) md) → (jis V (.inr 1) tr) → (jis V (.inr 1) ro) → (jis V (.inl 6) s) → (jis V (.inl 34) xx) → (jis V (.inl 35) yy) → (jis V (.inl 36) zz) → (jis V (.inr 1) rb) → (jis V (.inl 6) sB) → (jis V (.inl 34) xxB) → (jis V (.inl 35) yyB) → (jis V (.inl 36) zzB) → (jis V (.inl 6) sT) → (jis V (.inl 34) xxT) → (jis V (.inl 35) yyT) → (jis V (.inl 36) zzT) → (jfp [tr, sT, xxT, yyT, zzT] V0 V) → (V a0 = some (.inr (4, fs_a0))) → (jokO V (jFs 4) fs_a0) → (V ro = some (.inr (1, fs_ro))) → (jokO V (jFs 1) fs_ro) → (V rb = some (.inr (1, fs_rb))) → (jokO V (jFs 1) fs_rb) → (V tr = some (.inr (1, gs51tr))) → (gs51tr[1]? = some (.ref sT)) → (gs51tr[2]? = some (.ref xxT)) → (gs51tr[3]? = some (.ref yyT)) → (gs51tr[4]? = some (.ref zzT)) → (gs51tr[0]? = some (.int MT)) → (gs51tr[5]? = some (.int g)) → (gs51tr[6]? = some (.int g6n51)) → (V sT = some (.inl (6, 120, .inl F6n51))) → (V xxT = some (.inl (34, 121, .inl F34n51))) → (V yyT = some (.inl (35, 121, .inl F35n51))) → (V zzT = some (.inl (36, 121, .inl F36n51))) → (V s = some (.inl (6, 60, .inl S))) → (V xx = some (.inl (34, 61, .inl X))) → (V yy = some (.inl (35, 61, .inl Y))) → (V zz = some (.inl (36, 61, .inl Z))) → (V sB = some (.inl (6, 60, .inl SB))) → (V xxB = some (.inl (34, 61, .inl XB))) → (V yyB = some (.inl (35, 61, .inl YB))) → (V zzB = some (.inl (36, 61, .inl ZB))) → (0 ≤ i5n51.toInt ∧ i5n51.toInt ≤ nB.toInt) → (g6n51.toInt = n.toInt + i5n51.toInt) → (∀ j : Nat, (j : Int) < g6n51.toInt → (F6n51 j).toInt = (jTj (fun q => (S q).toInt) n.toInt.toNat (fun q => (SB q).toInt)) j) → (jrv g.toInt (jTj (fun q => (S q).toInt) n.toInt.toNat (fun q => (SB q).toInt)) g6n51.toInt.toNat F34n51 F35n51 F36n51) → (jav g.toInt (jTj (fun q => (S q).toInt) n.toInt.toNat (fun q => (SB q).toInt)) g6n51.toInt.toNat) → (300 - i5n51.toInt).toNat < N → J tS mX6_join d 51 [some (.ref a0), some (.int x1), some (.int x2), some (.ref ro), some (.ref rb), some (.int i5n51)] [] V 0 0 (fun r V => (jPost [.inr 1, .inl 6, .inl 34, .inl 35, .inl 36] V0 (fun r _ => ∃ y : Int32, r = some (.int y) ∧ ((-2147483648) ≤ y.toInt) ∧ (y.toInt ≤ 2147483647) ∧ (y.toInt = -3))) r V ∧ (∃ (g2 n2 : Int) (S2 X2 Y2 Z2 : Nat → Int32), jrw V tr sT xxT yyT zzT 120 g2 n2 S2 X2 Y2 Z2 ∧ (X2 0).toInt = 0 ∧ (Y2 0).toInt = 0 ∧ (Z2 0).toInt = 0) ∧ jfp [tr, sT, xxT, yyT, zzT] V0 V) := by
          intro N
          induction N with
          | zero => intro V i5n51 gs51tr g6n51 F6n51 F34n51 F35n51 F36n51 hW he ha0 hb_md hb_tr hb_ro hb_s hb_xx hb_yy hb_zz hb_rb hb_sB hb_xxB hb_yyB hb_zzB hb_sT hb_xxT hb_yyT hb_zzT hfp hO_a0 hK_a0 hO_ro hK_ro hO_rb hK_rb hOgs51tr hFgs51tr_1 hFgs51tr_2 hFgs51tr_3 hFgs51tr_4 hFgs51tr_0 hFgs51tr_5 hFgs51tr_6 hAF6n51 hAF34n51 hAF35n51 hAF36n51 ha_S ha_X ha_Y ha_Z ha_SB ha_XB ha_YB ha_ZB hi htn hts hjv hav hm; exact absurd hm (Nat.not_lt_zero _)
          | succ N ih =>
            intro V i5n51 gs51tr g6n51 F6n51 F34n51 F35n51 F36n51 hW he ha0 hb_md hb_tr hb_ro hb_s hb_xx hb_yy hb_zz hb_rb hb_sB hb_xxB hb_yyB hb_zzB hb_sT hb_xxT hb_yyT hb_zzT hfp hO_a0 hK_a0 hO_ro hK_ro hO_rb hK_rb hOgs51tr hFgs51tr_1 hFgs51tr_2 hFgs51tr_3 hFgs51tr_4 hFgs51tr_0 hFgs51tr_5 hFgs51tr_6 hAF6n51 hAF34n51 hAF35n51 hAF36n51 ha_S ha_X ha_Y ha_Z ha_SB ha_XB ha_YB ha_ZB hi htn hts hjv hav hm
            have ih51 := ih
            have hri5 := j_rng i5n51
            have hKgs51tr : jokO V (jFs 1) gs51tr := hW _ _ id hOgs51tr
            have hrgg6n51 : 0 ≤ g6n51.toInt ∧ g6n51.toInt ≤ 120 := jok_rngI hKgs51tr rfl hFgs51tr_6
            obtain ⟨hNF6n51, hvF6n51⟩ := WT_rngI (r := ((-2147483648), 2147483647)) hW id rfl hAF6n51
            clear hNF6n51
            obtain ⟨hNF34n51, hvF34n51⟩ := WT_rngI (r := ((-2147483648), 2147483647)) hW id rfl hAF34n51
            clear hNF34n51
            obtain ⟨hNF35n51, hvF35n51⟩ := WT_rngI (r := ((-2147483648), 2147483647)) hW id rfl hAF35n51
            clear hNF35n51
            obtain ⟨hNF36n51, hvF36n51⟩ := WT_rngI (r := ((-2147483648), 2147483647)) hW id rfl hAF36n51
            clear hNF36n51
            refine J_iload dX6_join_51 rfl ?_
            refine J_aload dX6_join_53 rfl ?_
            refine J_get jf_X6_69 dX6_join_55 hO_rb hF_nB ?_
            refine Jz_icmp_ge (tgt := 87) jEq.rf jEq.rf dX6_join_58 (by decide) (fun c58 => ?_) (fun c58 => ?_)
            · exact False.elim (hp13 (by rw [show (n.toInt + nB.toInt).toNat = g6n51.toInt.toNat by omega]; exact hav))
            · refine J_aload_n dX6_join_61 rfl ?_
              refine J_get jf_X6_22 dX6_join_62 hO_a0 hF_tr ?_
              refine J_aload dX6_join_65 rfl ?_
              refine J_iload dX6_join_67 rfl ?_
              refine Jw_callV1 (q9 := (RX3, TX3, 7)) moX3_direction jw_ml_X6_81 jw_im_X3_direction jw_se_X3_direction hb_rb rfl rfl dX6_join_69 (w_X3_direction_z (d - 1) _ rb i5n51 sB SB (by omega) hW  hb_rb ⟨_, hO_rb, hF_sB⟩ ha_SB (by omega) (by omega) (by omega)) (by omega) (Nat.zero_le _) (Nat.zero_le _) (Nat.le_of_ble_eq_true rfl) (fun r69 V69 h69 => ?_)
              obtain ⟨⟨y69, rfl, hl69, hh69, hP69_0⟩, hE69⟩ := h69
              have hE69 := hE69.symm
              subst hE69
              clear hl69 hh69
              have hz69 : jEq y69.toInt ((SB (i5n51.toInt).toNat).toInt) := hP69_0
              clear hP69_0
              have hsd := hp7 i5n51.toInt.toNat (by omega)
              rw [← hp6] at hsd
              have htp : (jTj (fun q => (S q).toInt) n.toInt.toNat (fun q => (SB q).toInt)) g6n51.toInt.toNat = y69.toInt := (by unfold jTj; rw [if_neg (by omega)]; (show (SB _).toInt = _); rw [show g6n51.toInt.toNat - n.toInt.toNat = i5n51.toInt.toNat by omega]; exact (hz69.eq).symm)
              have hbx := hjv.b g6n51.toInt.toNat (Nat.le_refl _)
              by_cases hcc : jav g.toInt (jTj (fun q => (S q).toInt) n.toInt.toNat (fun q => (SB q).toInt)) (g6n51.toInt.toNat + 1)
              · refine Jw_callV1 (q9 := (RX3, TX3, 7)) moX3_lay jw_ml_X6_72 jw_im_X3_lay jw_se_X3_lay hb_tr rfl rfl dX6_join_72 (w_X3_lay_yes (d - 1) _ tr y69 MT g g6n51 sT xxT yyT zzT F6n51 F34n51 F35n51 F36n51 (by omega) hW  hb_tr ⟨_, hOgs51tr, hFgs51tr_0⟩ ⟨_, hOgs51tr, hFgs51tr_5⟩ ⟨_, hOgs51tr, hFgs51tr_6⟩ ⟨_, hOgs51tr, hFgs51tr_1⟩ ⟨_, hOgs51tr, hFgs51tr_2⟩ ⟨_, hOgs51tr, hFgs51tr_3⟩ ⟨_, hOgs51tr, hFgs51tr_4⟩ hAF6n51 hAF34n51 hAF35n51 hAF36n51 (by omega) (by omega) (by omega) (by omega) (by omega) (by first | omega | (simp only [hz69.eq]; omega)) (by first | omega | (simp only [hz69.eq]; omega)) (by omega) (by omega) (by omega) (by omega) (by omega) (by omega) (by omega) (fun j hj q => (jav_succ.mp hcc).2 j (by omega) ((hjv.next (by omega)).mpr (by rw [htp]; exact q)))) (by omega) (Nat.zero_le _) (Nat.zero_le _) (Nat.le_of_ble_eq_true rfl) (fun r72 V72 h72 => ?_)
                obtain ⟨h72, hX72_0, hX72_1, hX72_2, hX72_3, hX72_4, ⟨fv72_0, hfv72_0, hfp72_0⟩, ⟨fv72_1, hfv72_1, hfp72_1⟩, ⟨fv72_2, hfv72_2, hfp72_2⟩⟩ := h72
                obtain ⟨hW, hx72, hr72⟩ := h72
                have he := he.trans (hx72.sub (jsub_of rfl))
                have hfp := hfp.trans (hX72_4.sub (fun b hb => by simp only [List.mem_cons, List.not_mem_nil, or_false] at hb ⊢; first | (rcases hb with h9 | h9 | h9 | h9 | h9 <;> simp only [h9, true_or, or_true]) | omega))
                have ha0 := ha0.mono hx72.1
                have hb_md := hb_md.mono hx72.1
                have hb_tr := hb_tr.mono hx72.1
                have hb_ro := hb_ro.mono hx72.1
                have hb_s := hb_s.mono hx72.1
                have hb_xx := hb_xx.mono hx72.1
                have hb_yy := hb_yy.mono hx72.1
                have hb_zz := hb_zz.mono hx72.1
                have hb_rb := hb_rb.mono hx72.1
                have hb_sB := hb_sB.mono hx72.1
                have hb_xxB := hb_xxB.mono hx72.1
                have hb_yyB := hb_yyB.mono hx72.1
                have hb_zzB := hb_zzB.mono hx72.1
                have hb_sT := hb_sT.mono hx72.1
                have hb_xxT := hb_xxT.mono hx72.1
                have hb_yyT := hb_yyT.mono hx72.1
                have hb_zzT := hb_zzT.mono hx72.1
                have hO_a0 := hx72.2 _ _ hO_a0 (jnot_of rfl)
                have hK_a0 := hK_a0.mono hx72.1
                have hO_ro := (hX72_4 ro (hAB ro List.mem_cons_self)).trans hO_ro
                have hK_ro := hK_ro.mono hx72.1
                have hO_rb := (hX72_4 rb (hCB rb List.mem_cons_self)).trans hO_rb
                have hK_rb := hK_rb.mono hx72.1
                obtain ⟨fs72tr, hOfs72tr, hRfs72tr⟩ := hx72.1.keep hOgs51tr
                have hKfs72tr : jokO _ (jFs 1) fs72tr := hW _ _ id hOfs72tr
                have hFfs72tr_1 := hRfs72tr _ _ hFgs51tr_1
                have hFfs72tr_2 := hRfs72tr _ _ hFgs51tr_2
                have hFfs72tr_3 := hRfs72tr _ _ hFgs51tr_3
                have hFfs72tr_4 := hRfs72tr _ _ hFgs51tr_4
                have ha_S := (hX72_4 s (hAB s (List.mem_cons_of_mem _ List.mem_cons_self))).trans ha_S
                have ha_X := (hX72_4 xx (hAB xx (List.mem_cons_of_mem _ (List.mem_cons_of_mem _ List.mem_cons_self)))).trans ha_X
                have ha_Y := (hX72_4 yy (hAB yy (List.mem_cons_of_mem _ (List.mem_cons_of_mem _ (List.mem_cons_of_mem _ List.mem_cons_self))))).trans ha_Y
                have ha_Z := (hX72_4 zz (hAB zz (List.mem_cons_of_mem _ (List.mem_cons_of_mem _ (List.mem_cons_of_mem _ (List.mem_cons_of_mem _ List.mem_cons_self)))))).trans ha_Z
                have ha_SB := (hX72_4 sB (hCB sB (List.mem_cons_of_mem _ List.mem_cons_self))).trans ha_SB
                have ha_XB := (hX72_4 xxB (hCB xxB (List.mem_cons_of_mem _ (List.mem_cons_of_mem _ List.mem_cons_self)))).trans ha_XB
                have ha_YB := (hX72_4 yyB (hCB yyB (List.mem_cons_of_mem _ (List.mem_cons_of_mem _ (List.mem_cons_of_mem _ List.mem_cons_self))))).trans ha_YB
                have ha_ZB := (hX72_4 zzB (hCB zzB (List.mem_cons_of_mem _ (List.mem_cons_of_mem _ (List.mem_cons_of_mem _ (List.mem_cons_of_mem _ List.mem_cons_self)))))).trans ha_ZB
                obtain ⟨y72, rfl, hl72, hh72, hP72_0⟩ := hr72
                try simp only [hz69.eq] at hP72_0
                have hFv72_0 := hfv72_0.get hOfs72tr
                try simp only [hz69.eq] at hfp72_0
                have hzf72_0 : jEq fv72_0.toInt ((g6n51.toInt) + 1) := hfp72_0
                clear hfp72_0
                have hFv72_1 := hfv72_1.get hOfs72tr
                try simp only [hz69.eq] at hfp72_1
                have hsb72_1 : MT = fv72_1 := (jI_inj.mp hfp72_1).symm
                subst hsb72_1
                have hFv72_2 := hfv72_2.get hOfs72tr
                try simp only [hz69.eq] at hfp72_2
                have hsb72_2 : g = fv72_2 := (jI_inj.mp hfp72_2).symm
                subst hsb72_2
                obtain ⟨S72, hS72, hSn72, hSo72⟩ := hX72_0
                obtain ⟨X72, hXa72, hXn72, hXo72⟩ := hX72_1
                obtain ⟨Y72, hYa72, hYn72, hYo72⟩ := hX72_2
                obtain ⟨Z72, hZa72, hZn72, hZo72⟩ := hX72_3
                obtain ⟨hN_S72, hv_S72⟩ := WT_rngI (r := ((-2147483648), 2147483647)) hW id rfl hS72
                clear hN_S72
                obtain ⟨hN_X72, hv_X72⟩ := WT_rngI (r := ((-2147483648), 2147483647)) hW id rfl hXa72
                clear hN_X72
                obtain ⟨hN_Y72, hv_Y72⟩ := WT_rngI (r := ((-2147483648), 2147483647)) hW id rfl hYa72
                clear hN_Y72
                obtain ⟨hN_Z72, hv_Z72⟩ := WT_rngI (r := ((-2147483648), 2147483647)) hW id rfl hZa72
                clear hN_Z72
                refine Jz_if_ne (tgt := 81) jEq.rf dX6_join_75 (by decide) (fun c75 => ?_) (fun c75 => ?_)
                · refine Jz_iinc 1 dX6_join_81 rfl rfl (by decide) jEq.rf (by decide) (by omega) (by omega) (fun y81 he81 => ?_)
                  refine J_goto (tgt := 51) dX6_join_84 (by decide) ?_
                  refine J.mask [true, true, true, true, true, true] ?_
                  exact ih51 _ y81 fs72tr fv72_0 S72 X72 Y72 Z72 hW he ha0 hb_md hb_tr hb_ro hb_s hb_xx hb_yy hb_zz hb_rb hb_sB hb_xxB hb_yyB hb_zzB hb_sT hb_xxT hb_yyT hb_zzT hfp hO_a0 hK_a0 hO_ro hK_ro hO_rb hK_rb hOfs72tr hFfs72tr_1 hFfs72tr_2 hFfs72tr_3 hFfs72tr_4 hFv72_1 hFv72_2 hFv72_0 hS72 hXa72 hYa72 hZa72 ha_S ha_X ha_Y ha_Z ha_SB ha_XB ha_YB ha_ZB (by (try simp only [he81.eq, hzf72_0.eq, true_and, and_true]) <;> omega) (by (try simp only [he81.eq, hzf72_0.eq, true_and, and_true]) <;> omega) (fun j hj => by rw [hzf72_0.eq] at hj; by_cases c : (j : Int) = g6n51.toInt; (have e : j = g6n51.toInt.toNat := by omega); subst e; rw [hSn72, htp]; rw [hSo72 j (by omega)]; exact hts j (by omega)) (by rw [hzf72_0.eq, show (g6n51.toInt + 1).toNat = g6n51.toInt.toNat + 1 by omega]; exact hjv.lay (by rw [hXn72, htp]) (by rw [hYn72, htp]) (by rw [hZn72, htp]) hXo72 hYo72 hZo72) (by rw [hzf72_0.eq, show (g6n51.toInt + 1).toNat = g6n51.toInt.toNat + 1 by omega]; exact hcc) (by (try simp only [he81.eq, hzf72_0.eq, true_and, and_true]) <;> omega)
                · exact False.elim (by omega)
              · refine Jw_callV1 (q9 := (RX3, TX3, 7)) moX3_lay jw_ml_X6_72 jw_im_X3_lay jw_se_X3_lay hb_tr rfl rfl dX6_join_72 (w_X3_lay_no (d - 1) _ tr y69 MT g g6n51 sT xxT yyT zzT F6n51 F34n51 F35n51 F36n51 (by omega) hW  hb_tr ⟨_, hOgs51tr, hFgs51tr_0⟩ ⟨_, hOgs51tr, hFgs51tr_5⟩ ⟨_, hOgs51tr, hFgs51tr_6⟩ ⟨_, hOgs51tr, hFgs51tr_1⟩ ⟨_, hOgs51tr, hFgs51tr_2⟩ ⟨_, hOgs51tr, hFgs51tr_3⟩ ⟨_, hOgs51tr, hFgs51tr_4⟩ hAF6n51 hAF34n51 hAF35n51 hAF36n51 (by omega) (by omega) (by omega) (by omega) (by omega) (by first | omega | (simp only [hz69.eq]; omega)) (by first | omega | (simp only [hz69.eq]; omega)) (by omega) (by omega) (by omega) (by omega) (by omega) (by omega) (Or.inr (by obtain ⟨i, h1, h2⟩ := jav_not hav hcc; exact ⟨i, by omega, by have q := (hjv.next h1).mp h2; rw [htp] at q; exact q⟩))) (by omega) (Nat.zero_le _) (Nat.zero_le _) (Nat.le_of_ble_eq_true rfl) (fun r72 V72 h72 => ?_)
                obtain ⟨⟨y72, rfl, hl72, hh72, hP72_0⟩, hE72⟩ := h72
                have hE72 := hE72.symm
                subst hE72
                try simp only [hz69.eq] at hP72_0
                refine Jz_if_ne (tgt := 81) jEq.rf dX6_join_75 (by decide) (fun c75 => ?_) (fun c75 => ?_)
                · exact False.elim (by omega)
                · refine Jz_bipush (-3) dX6_join_78 (by decide) (fun y78 he78 => ?_)
                  exact J_ret (r := some (.int _)) dX6_join_80 ⟨rfl, _, rfl, rfl⟩ (⟨⟨hW, he, ⟨_, rfl, (j_rng _).1, (j_rng _).2, (by (try simp only [he78.eq, true_and, and_true]) <;> omega)⟩⟩, ⟨_, _, _, _, _, _, ⟨⟨_, ⟨_, hOgs51tr, hFgs51tr_0⟩, hm_tr⟩, ⟨_, ⟨_, hOgs51tr, hFgs51tr_5⟩, rfl⟩, ⟨_, ⟨_, hOgs51tr, hFgs51tr_6⟩, rfl⟩, ⟨_, hOgs51tr, hFgs51tr_1⟩, ⟨_, hOgs51tr, hFgs51tr_2⟩, ⟨_, hOgs51tr, hFgs51tr_3⟩, ⟨_, hOgs51tr, hFgs51tr_4⟩, hAF6n51, hAF34n51, hAF35n51, hAF36n51⟩, (hjv 0 (Nat.zero_le _))⟩, hfp⟩)
        refine J.mask [true, true, true, true, true, true] ?_
        exact L51 _ _ y48 fs45tr n S45 X45 Y45 Z45 hW he ha0 hb_md hb_tr hb_ro hb_s hb_xx hb_yy hb_zz hb_rb hb_sB hb_xxB hb_yyB hb_zzB hb_sT hb_xxT hb_yyT hb_zzT hfp hO_a0 hK_a0 hO_ro hK_ro hO_rb hK_rb hOfs45tr hFfs45tr_1 hFfs45tr_2 hFfs45tr_3 hFfs45tr_4 hFv45_0 hFv45_1 hFv45_2 hS45 hXa45 hYa45 hZa45 ha_S ha_X ha_Y ha_Z ha_SB ha_XB ha_YB ha_ZB (by (try simp only [he48.eq, true_and, and_true]) <;> omega) (by (try simp only [he48.eq, true_and, and_true]) <;> omega) (fun j hj => by rw [hSe45 j hj]; unfold jTj; rw [if_pos (by omega)]) (by intro i hi; rw [hXe45 i (by omega), hYe45 i (by omega), hZe45 i (by omega)]; exact (hp11.congr (fun q hq => by unfold jTj; rw [if_pos hq])) i hi) (hp12.congr (fun q hq => by unfold jTj; rw [if_pos hq])) (Nat.lt_succ_self _)
      · exact False.elim (by omega)
set_option maxRecDepth 100000 in
set_option maxHeartbeats 8000000 in
theorem w_X6_join_full {tS : jTS} (d : Nat) (V0 : jH) (a0 : Nat) (x1 : Int32) (x2 : Int32) (k : Int32) (md : Nat) (tr : Nat) (f : Nat → Option Nat) (ro : Nat) (M : Int32) (g : Int32) (n : Int32) (s : Nat) (xx : Nat) (yy : Nat) (zz : Nat) (S : Nat → Int32) (X : Nat → Int32) (Y : Nat → Int32) (Z : Nat → Int32) (rb : Nat) (MB : Int32) (gB : Int32) (nB : Int32) (sB : Nat) (xxB : Nat) (yyB : Nat) (zzB : Nat) (SB : Nat → Int32) (XB : Nat → Int32) (YB : Nat → Int32) (ZB : Nat → Int32) (MT : Int32) (gT : Int32) (nT : Int32) (sT : Nat) (xxT : Nat) (yyT : Nat) (zzT : Nat) (ST : Nat → Int32) (XT : Nat → Int32) (YT : Nat → Int32) (ZT : Nat → Int32) (hd : 4 ≤ d) (hW : WT V0) (ha0 : jis V0 (.inr 4) a0) (hf_k : jfI V0 a0 4 1 k) (hr_md : jfR V0 a0 4 0 md) (hr_tr : jfR V0 a0 4 2 tr) (ha_f : V0 md = some (.inl (4, 16, .inr (.inr (.inr (.inr f)))))) (hf_M : jfI V0 ro 1 0 M) (hf_g : jfI V0 ro 1 5 g) (hf_n : jfI V0 ro 1 6 n) (hr_s : jfR V0 ro 1 1 s) (hr_xx : jfR V0 ro 1 2 xx) (hr_yy : jfR V0 ro 1 3 yy) (hr_zz : jfR V0 ro 1 4 zz) (ha_S : V0 s = some (.inl (6, 60, .inl S))) (ha_X : V0 xx = some (.inl (34, 61, .inl X))) (ha_Y : V0 yy = some (.inl (35, 61, .inl Y))) (ha_Z : V0 zz = some (.inl (36, 61, .inl Z))) (hm_ro : M.toInt = 60) (hn_ro : n.toInt ≤ 60) (hfo : f x1.toInt.toNat = some ro) (hf_MB : jfI V0 rb 1 0 MB) (hf_gB : jfI V0 rb 1 5 gB) (hf_nB : jfI V0 rb 1 6 nB) (hr_sB : jfR V0 rb 1 1 sB) (hr_xxB : jfR V0 rb 1 2 xxB) (hr_yyB : jfR V0 rb 1 3 yyB) (hr_zzB : jfR V0 rb 1 4 zzB) (ha_SB : V0 sB = some (.inl (6, 60, .inl SB))) (ha_XB : V0 xxB = some (.inl (34, 61, .inl XB))) (ha_YB : V0 yyB = some (.inl (35, 61, .inl YB))) (ha_ZB : V0 zzB = some (.inl (36, 61, .inl ZB))) (hm_rb : MB.toInt = 60) (hn_rb : nB.toInt ≤ 60) (hfb : f x2.toInt.toNat = some rb) (hf_MT : jfI V0 tr 1 0 MT) (hf_gT : jfI V0 tr 1 5 gT) (hf_nT : jfI V0 tr 1 6 nT) (hr_sT : jfR V0 tr 1 1 sT) (hr_xxT : jfR V0 tr 1 2 xxT) (hr_yyT : jfR V0 tr 1 3 yyT) (hr_zzT : jfR V0 tr 1 4 zzT) (ha_ST : V0 sT = some (.inl (6, 120, .inl ST))) (ha_XT : V0 xxT = some (.inl (34, 121, .inl XT))) (ha_YT : V0 yyT = some (.inl (35, 121, .inl YT))) (ha_ZT : V0 zzT = some (.inl (36, 121, .inl ZT))) (hm_tr : MT.toInt = 120) (hn_tr : nT.toInt ≤ 120) (hAB : ∀ b ∈ [ro, s, xx, yy, zz], b ∉ [tr, sT, xxT, yyT, zzT]) (hBA : ∀ b ∈ [tr, sT, xxT, yyT, zzT], b ∉ [ro, s, xx, yy, zz]) (hCB : ∀ b ∈ [rb, sB, xxB, yyB, zzB], b ∉ [tr, sT, xxT, yyT, zzT]) (hp0 : 0 ≤ x1.toInt) (hp1 : x1.toInt < k.toInt) (hp2 : 0 ≤ x2.toInt) (hp3 : x2.toInt < k.toInt) (hp4 : 0 ≤ g.toInt) (hp5 : g.toInt ≤ 3) (hp6 : g.toInt = gB.toInt) (hp7 : ∀ j : Nat, (j : Int) < nB.toInt → 0 ≤ (SB j).toInt ∧ (SB j).toInt < jdir gB.toInt) (hp8 : (XT 0).toInt = 0) (hp9 : (YT 0).toInt = 0) (hp10 : (ZT 0).toInt = 0) (hp11 : jrv g.toInt (fun q => (S q).toInt) n.toInt.toNat X Y Z) (hp12 : jav g.toInt (fun q => (S q).toInt) n.toInt.toNat) (hp13 : jav g.toInt (jTj (fun q => (S q).toInt) n.toInt.toNat (fun q => (SB q).toInt)) (n.toInt + nB.toInt).toNat) (hp14 : 60 < (n.toInt + nB.toInt)) : jTot tS mX6_join d [.ref a0, .int x1, .int x2] V0 0 0 (fun r V => (jPost [.inr 1, .inl 6, .inl 34, .inl 35, .inl 36] V0 (fun r _ => ∃ y : Int32, r = some (.int y) ∧ ((-2147483648) ≤ y.toInt) ∧ (y.toInt ≤ 2147483647) ∧ (y.toInt = -4))) r V ∧ (∃ (g2 n2 : Int) (S2 X2 Y2 Z2 : Nat → Int32), jrw V tr sT xxT yyT zzT 120 g2 n2 S2 X2 Y2 Z2 ∧ (X2 0).toInt = 0 ∧ (Y2 0).toInt = 0 ∧ (Z2 0).toInt = 0) ∧ jfp [tr, sT, xxT, yyT, zzT] V0 V) := by
  refine jTot.of_J [some (.ref a0), some (.int x1), some (.int x2), none, none, none] moX6_join (Nat.le_of_ble_eq_true rfl) rfl ?_
  have hrx1 := j_rng x1
  have hrx2 := j_rng x2
  have he : jeff [.inr 1, .inl 6, .inl 34, .inl 35, .inl 36] V0 V0 := jeff.refl _ _
  have hfp : jfp [tr, sT, xxT, yyT, zzT] V0 V0 := jfp.rf
  obtain ⟨fs_a0, hO_a0, hK_a0⟩ := WT_obj hW id ha0
  have hF_k := hf_k.get hO_a0
  have hrk : 0 ≤ k.toInt ∧ k.toInt ≤ 16 := jok_rngI hK_a0 rfl hF_k
  have hF_md := hr_md.get hO_a0
  obtain ⟨w_md, hFq_md, b_md, hbq_md, hb_md⟩ := hK_a0.2 0 (.inr (some (.inl 4))) rfl
  cases hF_md.symm.trans (hFq_md.trans (congrArg some hbq_md))
  have hF_tr := hr_tr.get hO_a0
  obtain ⟨w_tr, hFq_tr, b_tr, hbq_tr, hb_tr⟩ := hK_a0.2 2 (.inr (some (.inr 1))) rfl
  cases hF_tr.symm.trans (hFq_tr.trans (congrArg some hbq_tr))
  have hb_ro : jis V0 (.inr 1) ro := by obtain ⟨q1, q2, q3⟩ := hf_M; exact ⟨_, q2, rfl⟩
  obtain ⟨fs_ro, hO_ro, hK_ro⟩ := WT_obj hW id hb_ro
  have hF_M := hf_M.get hO_ro
  have hrM : 0 ≤ M.toInt ∧ M.toInt ≤ 120 := jok_rngI hK_ro rfl hF_M
  have hF_g := hf_g.get hO_ro
  have hrg : (-2147483648) ≤ g.toInt ∧ g.toInt ≤ 2147483647 := jok_rngI hK_ro rfl hF_g
  have hF_n := hf_n.get hO_ro
  have hrn : 0 ≤ n.toInt ∧ n.toInt ≤ 120 := jok_rngI hK_ro rfl hF_n
  have hF_s := hr_s.get hO_ro
  have hb_s : jis V0 (.inl 6) s := ⟨_, ha_S, rfl⟩
  obtain ⟨hN_S, hv_S⟩ := WT_rngI (r := (-2147483648, 2147483647)) hW id rfl ha_S
  clear hN_S
  have hF_xx := hr_xx.get hO_ro
  have hb_xx : jis V0 (.inl 34) xx := ⟨_, ha_X, rfl⟩
  obtain ⟨hN_X, hv_X⟩ := WT_rngI (r := (-2147483648, 2147483647)) hW id rfl ha_X
  clear hN_X
  have hF_yy := hr_yy.get hO_ro
  have hb_yy : jis V0 (.inl 35) yy := ⟨_, ha_Y, rfl⟩
  obtain ⟨hN_Y, hv_Y⟩ := WT_rngI (r := (-2147483648, 2147483647)) hW id rfl ha_Y
  clear hN_Y
  have hF_zz := hr_zz.get hO_ro
  have hb_zz : jis V0 (.inl 36) zz := ⟨_, ha_Z, rfl⟩
  obtain ⟨hN_Z, hv_Z⟩ := WT_rngI (r := (-2147483648, 2147483647)) hW id rfl ha_Z
  clear hN_Z
  have hb_rb : jis V0 (.inr 1) rb := by obtain ⟨q1, q2, q3⟩ := hf_MB; exact ⟨_, q2, rfl⟩
  obtain ⟨fs_rb, hO_rb, hK_rb⟩ := WT_obj hW id hb_rb
  have hF_MB := hf_MB.get hO_rb
  have hrMB : 0 ≤ MB.toInt ∧ MB.toInt ≤ 120 := jok_rngI hK_rb rfl hF_MB
  have hF_gB := hf_gB.get hO_rb
  have hrgB : (-2147483648) ≤ gB.toInt ∧ gB.toInt ≤ 2147483647 := jok_rngI hK_rb rfl hF_gB
  have hF_nB := hf_nB.get hO_rb
  have hrnB : 0 ≤ nB.toInt ∧ nB.toInt ≤ 120 := jok_rngI hK_rb rfl hF_nB
  have hF_sB := hr_sB.get hO_rb
  have hb_sB : jis V0 (.inl 6) sB := ⟨_, ha_SB, rfl⟩
  obtain ⟨hN_SB, hv_SB⟩ := WT_rngI (r := (-2147483648, 2147483647)) hW id rfl ha_SB
  clear hN_SB
  have hF_xxB := hr_xxB.get hO_rb
  have hb_xxB : jis V0 (.inl 34) xxB := ⟨_, ha_XB, rfl⟩
  obtain ⟨hN_XB, hv_XB⟩ := WT_rngI (r := (-2147483648, 2147483647)) hW id rfl ha_XB
  clear hN_XB
  have hF_yyB := hr_yyB.get hO_rb
  have hb_yyB : jis V0 (.inl 35) yyB := ⟨_, ha_YB, rfl⟩
  obtain ⟨hN_YB, hv_YB⟩ := WT_rngI (r := (-2147483648, 2147483647)) hW id rfl ha_YB
  clear hN_YB
  have hF_zzB := hr_zzB.get hO_rb
  have hb_zzB : jis V0 (.inl 36) zzB := ⟨_, ha_ZB, rfl⟩
  obtain ⟨hN_ZB, hv_ZB⟩ := WT_rngI (r := (-2147483648, 2147483647)) hW id rfl ha_ZB
  clear hN_ZB
  obtain ⟨fs_tr, hO_tr, hK_tr⟩ := WT_obj hW id hb_tr
  have hF_MT := hf_MT.get hO_tr
  have hrMT : 0 ≤ MT.toInt ∧ MT.toInt ≤ 120 := jok_rngI hK_tr rfl hF_MT
  have hF_gT := hf_gT.get hO_tr
  have hrgT : (-2147483648) ≤ gT.toInt ∧ gT.toInt ≤ 2147483647 := jok_rngI hK_tr rfl hF_gT
  have hF_nT := hf_nT.get hO_tr
  have hrnT : 0 ≤ nT.toInt ∧ nT.toInt ≤ 120 := jok_rngI hK_tr rfl hF_nT
  have hF_sT := hr_sT.get hO_tr
  have hb_sT : jis V0 (.inl 6) sT := ⟨_, ha_ST, rfl⟩
  obtain ⟨hN_ST, hv_ST⟩ := WT_rngI (r := (-2147483648, 2147483647)) hW id rfl ha_ST
  clear hN_ST
  have hF_xxT := hr_xxT.get hO_tr
  have hb_xxT : jis V0 (.inl 34) xxT := ⟨_, ha_XT, rfl⟩
  obtain ⟨hN_XT, hv_XT⟩ := WT_rngI (r := (-2147483648, 2147483647)) hW id rfl ha_XT
  clear hN_XT
  have hF_yyT := hr_yyT.get hO_tr
  have hb_yyT : jis V0 (.inl 35) yyT := ⟨_, ha_YT, rfl⟩
  obtain ⟨hN_YT, hv_YT⟩ := WT_rngI (r := (-2147483648, 2147483647)) hW id rfl ha_YT
  clear hN_YT
  have hF_zzT := hr_zzT.get hO_tr
  have hb_zzT : jis V0 (.inl 36) zzT := ⟨_, ha_ZT, rfl⟩
  obtain ⟨hN_ZT, hv_ZT⟩ := WT_rngI (r := (-2147483648, 2147483647)) hW id rfl ha_ZT
  clear hN_ZT
  refine J_aload_n dX6_join_0 rfl ?_
  refine J_iload_n dX6_join_1 rfl ?_
  refine Jw_callV1 (q9 := (RX6, TX6, 7)) moX6_rowOf jw_ml_X6_55 jw_im_X6_rowOf jw_se_X6_rowOf ha0 rfl rfl dX6_join_2 (w_X6_rowOf_in (d - 1) _ a0 x1 hO_a0 hF_md hF_k ha_f (by omega) (by omega) (by omega) hfo) (by omega) (Nat.zero_le _) (Nat.zero_le _) (Nat.le_of_ble_eq_true rfl) (fun r2 V2 h2 => ?_)
  obtain ⟨rfl, hE2⟩ := h2
  have hE2 := hE2.symm
  subst hE2
  · refine J_astore_n dX6_join_5 rfl (by decide) ?_
    refine J_aload_n dX6_join_6 rfl ?_
    refine J_iload_n dX6_join_7 rfl ?_
    refine Jw_callV1 (q9 := (RX6, TX6, 7)) moX6_rowOf jw_ml_X6_55 jw_im_X6_rowOf jw_se_X6_rowOf ha0 rfl rfl dX6_join_8 (w_X6_rowOf_in (d - 1) _ a0 x2 hO_a0 hF_md hF_k ha_f (by omega) (by omega) (by omega) hfb) (by omega) (Nat.zero_le _) (Nat.zero_le _) (Nat.le_of_ble_eq_true rfl) (fun r8 V8 h8 => ?_)
    obtain ⟨rfl, hE8⟩ := h8
    have hE8 := hE8.symm
    subst hE8
    · refine J_astore dX6_join_11 rfl (by decide) ?_
      refine J_aload_n dX6_join_13 rfl ?_
      refine J_ifnull dX6_join_14 ?_
      refine J_aload dX6_join_17 rfl ?_
      refine J_ifnonnull (tgt := 25) dX6_join_19 (by decide) ?_
      refine J_aload_n dX6_join_25 rfl ?_
      refine J_get jf_X6_59 dX6_join_26 hO_ro hF_g ?_
      refine J_aload dX6_join_29 rfl ?_
      refine J_get jf_X6_59 dX6_join_31 hO_rb hF_gB ?_
      refine Jz_icmp_eq (tgt := 40) jEq.rf jEq.rf dX6_join_34 (by decide) (fun c34 => ?_) (fun c34 => ?_)
      · refine J_aload_n dX6_join_40 rfl ?_
        refine J_get jf_X6_22 dX6_join_41 hO_a0 hF_tr ?_
        refine J_aload_n dX6_join_44 rfl ?_
        have hdc := jdir_cases g.toInt
        refine Jw_callV1 (q9 := (RX3, TX3, 7)) moX3_become jw_ml_X6_89 jw_im_X3_become jw_se_X3_become hb_tr rfl rfl dX6_join_45 (w_X3_become_z (d - 1) _ tr ro MT g n sT xxT yyT zzT s xx yy zz ST XT YT ZT S X Y Z (by omega) hW  hb_tr hb_ro ⟨_, hO_tr, hF_MT⟩ ⟨_, hO_ro, hF_g⟩ ⟨_, hO_ro, hF_n⟩ ⟨_, hO_tr, hF_sT⟩ ⟨_, hO_tr, hF_xxT⟩ ⟨_, hO_tr, hF_yyT⟩ ⟨_, hO_tr, hF_zzT⟩ ⟨_, hO_ro, hF_s⟩ ⟨_, hO_ro, hF_xx⟩ ⟨_, hO_ro, hF_yy⟩ ⟨_, hO_ro, hF_zz⟩ (fun e => hAB ro List.mem_cons_self (e ▸ List.mem_cons_self)) (fun e => hAB s (List.mem_cons_of_mem _ List.mem_cons_self) (e ▸ (List.mem_cons_of_mem _ List.mem_cons_self))) (fun e => hAB xx (List.mem_cons_of_mem _ (List.mem_cons_of_mem _ List.mem_cons_self)) (e ▸ (List.mem_cons_of_mem _ (List.mem_cons_of_mem _ List.mem_cons_self)))) (fun e => hAB yy (List.mem_cons_of_mem _ (List.mem_cons_of_mem _ (List.mem_cons_of_mem _ List.mem_cons_self))) (e ▸ (List.mem_cons_of_mem _ (List.mem_cons_of_mem _ (List.mem_cons_of_mem _ List.mem_cons_self))))) (fun e => hAB zz (List.mem_cons_of_mem _ (List.mem_cons_of_mem _ (List.mem_cons_of_mem _ (List.mem_cons_of_mem _ List.mem_cons_self)))) (e ▸ (List.mem_cons_of_mem _ (List.mem_cons_of_mem _ (List.mem_cons_of_mem _ (List.mem_cons_of_mem _ List.mem_cons_self)))))) ha_ST ha_XT ha_YT ha_ZT ha_S ha_X ha_Y ha_Z (by omega) (by omega) (by omega) (by omega) (by omega)) (by omega) (Nat.zero_le _) (Nat.zero_le _) (Nat.le_of_ble_eq_true rfl) (fun r45 V45 h45 => ?_)
        obtain ⟨h45, hX45_0, hX45_1, hX45_2, hX45_3, hX45_4, ⟨fv45_0, hfv45_0, hfp45_0⟩, ⟨fv45_1, hfv45_1, hfp45_1⟩, ⟨fv45_2, hfv45_2, hfp45_2⟩⟩ := h45
        obtain ⟨hW, hx45, hr45⟩ := h45
        have he := he.trans (hx45.sub (jsub_of rfl))
        have hfp := hfp.trans (hX45_4.sub (fun b hb => by simp only [List.mem_cons, List.not_mem_nil, or_false] at hb ⊢; first | (rcases hb with h9 | h9 | h9 | h9 | h9 <;> simp only [h9, true_or, or_true]) | omega))
        have ha0 := ha0.mono hx45.1
        have hb_md := hb_md.mono hx45.1
        have hb_tr := hb_tr.mono hx45.1
        have hb_ro := hb_ro.mono hx45.1
        have hb_s := hb_s.mono hx45.1
        have hb_xx := hb_xx.mono hx45.1
        have hb_yy := hb_yy.mono hx45.1
        have hb_zz := hb_zz.mono hx45.1
        have hb_rb := hb_rb.mono hx45.1
        have hb_sB := hb_sB.mono hx45.1
        have hb_xxB := hb_xxB.mono hx45.1
        have hb_yyB := hb_yyB.mono hx45.1
        have hb_zzB := hb_zzB.mono hx45.1
        have hb_sT := hb_sT.mono hx45.1
        have hb_xxT := hb_xxT.mono hx45.1
        have hb_yyT := hb_yyT.mono hx45.1
        have hb_zzT := hb_zzT.mono hx45.1
        have hO_a0 := hx45.2 _ _ hO_a0 (jnot_of rfl)
        have hK_a0 := hK_a0.mono hx45.1
        have hO_ro := (hX45_4 ro (hAB ro List.mem_cons_self)).trans hO_ro
        have hK_ro := hK_ro.mono hx45.1
        have hO_rb := (hX45_4 rb (hCB rb List.mem_cons_self)).trans hO_rb
        have hK_rb := hK_rb.mono hx45.1
        obtain ⟨fs45tr, hOfs45tr, hRfs45tr⟩ := hx45.1.keep hO_tr
        have hKfs45tr : jokO _ (jFs 1) fs45tr := hW _ _ id hOfs45tr
        have hFfs45tr_1 := hRfs45tr _ _ hF_sT
        have hFfs45tr_2 := hRfs45tr _ _ hF_xxT
        have hFfs45tr_3 := hRfs45tr _ _ hF_yyT
        have hFfs45tr_4 := hRfs45tr _ _ hF_zzT
        have ha_S := (hX45_4 s (hAB s (List.mem_cons_of_mem _ List.mem_cons_self))).trans ha_S
        have ha_X := (hX45_4 xx (hAB xx (List.mem_cons_of_mem _ (List.mem_cons_of_mem _ List.mem_cons_self)))).trans ha_X
        have ha_Y := (hX45_4 yy (hAB yy (List.mem_cons_of_mem _ (List.mem_cons_of_mem _ (List.mem_cons_of_mem _ List.mem_cons_self))))).trans ha_Y
        have ha_Z := (hX45_4 zz (hAB zz (List.mem_cons_of_mem _ (List.mem_cons_of_mem _ (List.mem_cons_of_mem _ (List.mem_cons_of_mem _ List.mem_cons_self)))))).trans ha_Z
        have ha_SB := (hX45_4 sB (hCB sB (List.mem_cons_of_mem _ List.mem_cons_self))).trans ha_SB
        have ha_XB := (hX45_4 xxB (hCB xxB (List.mem_cons_of_mem _ (List.mem_cons_of_mem _ List.mem_cons_self)))).trans ha_XB
        have ha_YB := (hX45_4 yyB (hCB yyB (List.mem_cons_of_mem _ (List.mem_cons_of_mem _ (List.mem_cons_of_mem _ List.mem_cons_self))))).trans ha_YB
        have ha_ZB := (hX45_4 zzB (hCB zzB (List.mem_cons_of_mem _ (List.mem_cons_of_mem _ (List.mem_cons_of_mem _ (List.mem_cons_of_mem _ List.mem_cons_self)))))).trans ha_ZB
        cases hr45
        have hFv45_0 := hfv45_0.get hOfs45tr
        have hsb45_0 : MT = fv45_0 := (jI_inj.mp hfp45_0).symm
        subst hsb45_0
        have hFv45_1 := hfv45_1.get hOfs45tr
        have hsb45_1 : g = fv45_1 := (jI_inj.mp hfp45_1).symm
        subst hsb45_1
        have hFv45_2 := hfv45_2.get hOfs45tr
        have hsb45_2 : n = fv45_2 := (jI_inj.mp hfp45_2).symm
        subst hsb45_2
        obtain ⟨S45, hS45, hSe45⟩ := hX45_0
        obtain ⟨X45, hXa45, hXe45⟩ := hX45_1
        obtain ⟨Y45, hYa45, hYe45⟩ := hX45_2
        obtain ⟨Z45, hZa45, hZe45⟩ := hX45_3
        obtain ⟨hN_S45, hv_S45⟩ := WT_rngI (r := ((-2147483648), 2147483647)) hW id rfl hS45
        clear hN_S45
        obtain ⟨hN_X45, hv_X45⟩ := WT_rngI (r := ((-2147483648), 2147483647)) hW id rfl hXa45
        clear hN_X45
        obtain ⟨hN_Y45, hv_Y45⟩ := WT_rngI (r := ((-2147483648), 2147483647)) hW id rfl hYa45
        clear hN_Y45
        obtain ⟨hN_Z45, hv_Z45⟩ := WT_rngI (r := ((-2147483648), 2147483647)) hW id rfl hZa45
        clear hN_Z45
        refine Jz_iconst 0 dX6_join_48 (by decide) (fun y48 he48 => ?_)
        refine J_istore dX6_join_49 rfl (by decide) ?_
        have L51 : ∀ (N : Nat) (V : jH) (i5n51 : Int32) (gs51tr : List Value) (g6n51 : Int32) (F6n51 : Nat → Int32) (F34n51 : Nat → Int32) (F35n51 : Nat → Int32) (F36n51 : Nat → Int32), WT V → jeff [.inr 1, .inl 6, .inl 34, .inl 35, .inl 36] V0 V → (jis V (.inr 4) a0) → (jis V (.inl 4) md) → (jis V (.inr 1) tr) → (jis V (.inr 1) ro) → (jis V (.inl 6) s) → (jis V (.inl 34) xx) → (jis V (.inl 35) yy) → (jis V (.inl 36) zz) → (jis V (.inr 1) rb) → (jis V (.inl 6) sB) → (jis V (.inl 34) xxB) → (jis V (.inl 35) yyB) → (jis V (.inl 36) zzB) → (jis V (.inl 6) sT) → (jis V (.inl 34) xxT) → (jis V (.inl 35) yyT) → (jis V (.inl 36) zzT) → (jfp [tr, sT, xxT, yyT, zzT] V0 V) → (V a0 = some (.inr (4, fs_a0))) → (jokO V (jFs 4) fs_a0) → (V ro = some (.inr (1, fs_ro))) → (jokO V (jFs 1) fs_ro) → (V rb = some (.inr (1, fs_rb))) → (jokO V (jFs 1) fs_rb) → (V tr = some (.inr (1, gs51tr))) → (gs51tr[1]? = some (.ref sT)) → (gs51tr[2]? = some (.ref xxT)) → (gs51tr[3]? = some (.ref yyT)) → (gs51tr[4]? = some (.ref zzT)) → (gs51tr[0]? = some (.int MT)) → (gs51tr[5]? = some (.int g)) → (gs51tr[6]? = some (.int g6n51)) → (V sT = some (.inl (6, 120, .inl F6n51))) → (V xxT = some (.inl (34, 121, .inl F34n51))) → (V yyT = some (.inl (35, 121, .inl F35n51))) → (V zzT = some (.inl (36, 121, .inl F36n51))) → (V s = some (.inl (6, 60, .inl S))) → (V xx = some (.inl (34, 61, .inl X))) → (V yy = some (.inl (35, 61, .inl Y))) → (V zz = some (.inl (36, 61, .inl Z))) → (V sB = some (.inl (6, 60, .inl SB))) → (V xxB = some (.inl (34, 61, .inl XB))) → (V yyB = some (.inl (35, 61, .inl YB))) → (V zzB = some (.inl (36, 61, .inl ZB))) → (0 ≤ i5n51.toInt ∧ i5n51.toInt ≤ nB.toInt) → (g6n51.toInt = n.toInt + i5n51.toInt) → (∀ j : Nat, (j : Int) < g6n51.toInt → (F6n51 j).toInt = (jTj (fun q => (S q).toInt) n.toInt.toNat (fun q => (SB q).toInt)) j) → (jrv g.toInt (jTj (fun q => (S q).toInt) n.toInt.toNat (fun q => (SB q).toInt)) g6n51.toInt.toNat F34n51 F35n51 F36n51) → (jav g.toInt (jTj (fun q => (S q).toInt) n.toInt.toNat (fun q => (SB q).toInt)) g6n51.toInt.toNat) → (300 - i5n51.toInt).toNat < N → J tS mX6_join d 51 [some (.ref a0), some (.int x1), some (.int x2), some (.ref ro), some (.ref rb), some (.int i5n51)] [] V 0 0 (fun r V => (jPost [.inr 1, .inl 6, .inl 34, .inl 35, .inl 36] V0 (fun r _ => ∃ y : Int32, r = some (.int y) ∧ ((-2147483648) ≤ y.toInt) ∧ (y.toInt ≤ 2147483647) ∧ (y.toInt = -4))) r V ∧ (∃ (g2 n2 : Int) (S2 X2 Y2 Z2 : Nat → Int32), jrw V tr sT xxT yyT zzT 120 g2 n2 S2 X2 Y2 Z2 ∧ (X2 0).toInt = 0 ∧ (Y2 0).toInt = 0 ∧ (Z2 0).toInt = 0) ∧ jfp [tr, sT, xxT, yyT, zzT] V0 V) := by
          intro N
          induction N with
          | zero => intro V i5n51 gs51tr g6n51 F6n51 F34n51 F35n51 F36n51 hW he ha0 hb_md hb_tr hb_ro hb_s hb_xx hb_yy hb_zz hb_rb hb_sB hb_xxB hb_yyB hb_zzB hb_sT hb_xxT hb_yyT hb_zzT hfp hO_a0 hK_a0 hO_ro hK_ro hO_rb hK_rb hOgs51tr hFgs51tr_1 hFgs51tr_2 hFgs51tr_3 hFgs51tr_4 hFgs51tr_0 hFgs51tr_5 hFgs51tr_6 hAF6n51 hAF34n51 hAF35n51 hAF36n51 ha_S ha_X ha_Y ha_Z ha_SB ha_XB ha_YB ha_ZB hi htn hts hjv hav hm; exact absurd hm (Nat.not_lt_zero _)
          | succ N ih =>
            intro V i5n51 gs51tr g6n51 F6n51 F34n51 F35n51 F36n51 hW he ha0 hb_md hb_tr hb_ro hb_s hb_xx hb_yy hb_zz hb_rb hb_sB hb_xxB hb_yyB hb_zzB hb_sT hb_xxT hb_yyT hb_zzT hfp hO_a0 hK_a0 hO_ro hK_ro hO_rb hK_rb hOgs51tr hFgs51tr_1 hFgs51tr_2 hFgs51tr_3 hFgs51tr_4 hFgs51tr_0 hFgs51tr_5 hFgs51tr_6 hAF6n51 hAF34n51 hAF35n51 hAF36n51 ha_S ha_X ha_Y ha_Z ha_SB ha_XB ha_YB ha_ZB hi htn hts hjv hav hm
            have ih51 := ih
            have hri5 := j_rng i5n51
            have hKgs51tr : jokO V (jFs 1) gs51tr := hW _ _ id hOgs51tr
            have hrgg6n51 : 0 ≤ g6n51.toInt ∧ g6n51.toInt ≤ 120 := jok_rngI hKgs51tr rfl hFgs51tr_6
            obtain ⟨hNF6n51, hvF6n51⟩ := WT_rngI (r := ((-2147483648), 2147483647)) hW id rfl hAF6n51
            clear hNF6n51
            obtain ⟨hNF34n51, hvF34n51⟩ := WT_rngI (r := ((-2147483648), 2147483647)) hW id rfl hAF34n51
            clear hNF34n51
            obtain ⟨hNF35n51, hvF35n51⟩ := WT_rngI (r := ((-2147483648), 2147483647)) hW id rfl hAF35n51
            clear hNF35n51
            obtain ⟨hNF36n51, hvF36n51⟩ := WT_rngI (r := ((-2147483648), 2147483647)) hW id rfl hAF36n51
            clear hNF36n51
            refine J_iload dX6_join_51 rfl ?_
            refine J_aload dX6_join_53 rfl ?_
            refine J_get jf_X6_69 dX6_join_55 hO_rb hF_nB ?_
            refine Jz_icmp_ge (tgt := 87) jEq.rf jEq.rf dX6_join_58 (by decide) (fun c58 => ?_) (fun c58 => ?_)
            · refine J_aload_n dX6_join_87 rfl ?_
              refine J_get jf_X6_22 dX6_join_88 hO_a0 hF_tr ?_
              refine J_get jf_X6_69 dX6_join_91 hOgs51tr hFgs51tr_6 ?_
              refine Jz_bipush 60 dX6_join_94 (by decide) (fun y94 he94 => ?_)
              refine Jz_icmp_le (tgt := 102) jEq.rf he94 dX6_join_96 (by decide) (fun c96 => ?_) (fun c96 => ?_)
              · exact False.elim (by omega)
              · refine Jz_bipush (-4) dX6_join_99 (by decide) (fun y99 he99 => ?_)
                exact J_ret (r := some (.int _)) dX6_join_101 ⟨rfl, _, rfl, rfl⟩ (⟨⟨hW, he, ⟨_, rfl, (j_rng _).1, (j_rng _).2, (by (try simp only [he99.eq, true_and, and_true]) <;> omega)⟩⟩, ⟨_, _, _, _, _, _, ⟨⟨_, ⟨_, hOgs51tr, hFgs51tr_0⟩, hm_tr⟩, ⟨_, ⟨_, hOgs51tr, hFgs51tr_5⟩, rfl⟩, ⟨_, ⟨_, hOgs51tr, hFgs51tr_6⟩, rfl⟩, ⟨_, hOgs51tr, hFgs51tr_1⟩, ⟨_, hOgs51tr, hFgs51tr_2⟩, ⟨_, hOgs51tr, hFgs51tr_3⟩, ⟨_, hOgs51tr, hFgs51tr_4⟩, hAF6n51, hAF34n51, hAF35n51, hAF36n51⟩, (hjv 0 (Nat.zero_le _))⟩, hfp⟩)
            · refine J_aload_n dX6_join_61 rfl ?_
              refine J_get jf_X6_22 dX6_join_62 hO_a0 hF_tr ?_
              refine J_aload dX6_join_65 rfl ?_
              refine J_iload dX6_join_67 rfl ?_
              refine Jw_callV1 (q9 := (RX3, TX3, 7)) moX3_direction jw_ml_X6_81 jw_im_X3_direction jw_se_X3_direction hb_rb rfl rfl dX6_join_69 (w_X3_direction_z (d - 1) _ rb i5n51 sB SB (by omega) hW  hb_rb ⟨_, hO_rb, hF_sB⟩ ha_SB (by omega) (by omega) (by omega)) (by omega) (Nat.zero_le _) (Nat.zero_le _) (Nat.le_of_ble_eq_true rfl) (fun r69 V69 h69 => ?_)
              obtain ⟨⟨y69, rfl, hl69, hh69, hP69_0⟩, hE69⟩ := h69
              have hE69 := hE69.symm
              subst hE69
              clear hl69 hh69
              have hz69 : jEq y69.toInt ((SB (i5n51.toInt).toNat).toInt) := hP69_0
              clear hP69_0
              have hsd := hp7 i5n51.toInt.toNat (by omega)
              rw [← hp6] at hsd
              have htp : (jTj (fun q => (S q).toInt) n.toInt.toNat (fun q => (SB q).toInt)) g6n51.toInt.toNat = y69.toInt := (by unfold jTj; rw [if_neg (by omega)]; (show (SB _).toInt = _); rw [show g6n51.toInt.toNat - n.toInt.toNat = i5n51.toInt.toNat by omega]; exact (hz69.eq).symm)
              have hbx := hjv.b g6n51.toInt.toNat (Nat.le_refl _)
              have hcc : jav g.toInt (jTj (fun q => (S q).toInt) n.toInt.toNat (fun q => (SB q).toInt)) (g6n51.toInt.toNat + 1) := hp13.mono (by omega)
              refine Jw_callV1 (q9 := (RX3, TX3, 7)) moX3_lay jw_ml_X6_72 jw_im_X3_lay jw_se_X3_lay hb_tr rfl rfl dX6_join_72 (w_X3_lay_yes (d - 1) _ tr y69 MT g g6n51 sT xxT yyT zzT F6n51 F34n51 F35n51 F36n51 (by omega) hW  hb_tr ⟨_, hOgs51tr, hFgs51tr_0⟩ ⟨_, hOgs51tr, hFgs51tr_5⟩ ⟨_, hOgs51tr, hFgs51tr_6⟩ ⟨_, hOgs51tr, hFgs51tr_1⟩ ⟨_, hOgs51tr, hFgs51tr_2⟩ ⟨_, hOgs51tr, hFgs51tr_3⟩ ⟨_, hOgs51tr, hFgs51tr_4⟩ hAF6n51 hAF34n51 hAF35n51 hAF36n51 (by omega) (by omega) (by omega) (by omega) (by omega) (by first | omega | (simp only [hz69.eq]; omega)) (by first | omega | (simp only [hz69.eq]; omega)) (by omega) (by omega) (by omega) (by omega) (by omega) (by omega) (by omega) (fun j hj q => (jav_succ.mp hcc).2 j (by omega) ((hjv.next (by omega)).mpr (by rw [htp]; exact q)))) (by omega) (Nat.zero_le _) (Nat.zero_le _) (Nat.le_of_ble_eq_true rfl) (fun r72 V72 h72 => ?_)
              obtain ⟨h72, hX72_0, hX72_1, hX72_2, hX72_3, hX72_4, ⟨fv72_0, hfv72_0, hfp72_0⟩, ⟨fv72_1, hfv72_1, hfp72_1⟩, ⟨fv72_2, hfv72_2, hfp72_2⟩⟩ := h72
              obtain ⟨hW, hx72, hr72⟩ := h72
              have he := he.trans (hx72.sub (jsub_of rfl))
              have hfp := hfp.trans (hX72_4.sub (fun b hb => by simp only [List.mem_cons, List.not_mem_nil, or_false] at hb ⊢; first | (rcases hb with h9 | h9 | h9 | h9 | h9 <;> simp only [h9, true_or, or_true]) | omega))
              have ha0 := ha0.mono hx72.1
              have hb_md := hb_md.mono hx72.1
              have hb_tr := hb_tr.mono hx72.1
              have hb_ro := hb_ro.mono hx72.1
              have hb_s := hb_s.mono hx72.1
              have hb_xx := hb_xx.mono hx72.1
              have hb_yy := hb_yy.mono hx72.1
              have hb_zz := hb_zz.mono hx72.1
              have hb_rb := hb_rb.mono hx72.1
              have hb_sB := hb_sB.mono hx72.1
              have hb_xxB := hb_xxB.mono hx72.1
              have hb_yyB := hb_yyB.mono hx72.1
              have hb_zzB := hb_zzB.mono hx72.1
              have hb_sT := hb_sT.mono hx72.1
              have hb_xxT := hb_xxT.mono hx72.1
              have hb_yyT := hb_yyT.mono hx72.1
              have hb_zzT := hb_zzT.mono hx72.1
              have hO_a0 := hx72.2 _ _ hO_a0 (jnot_of rfl)
              have hK_a0 := hK_a0.mono hx72.1
              have hO_ro := (hX72_4 ro (hAB ro List.mem_cons_self)).trans hO_ro
              have hK_ro := hK_ro.mono hx72.1
              have hO_rb := (hX72_4 rb (hCB rb List.mem_cons_self)).trans hO_rb
              have hK_rb := hK_rb.mono hx72.1
              obtain ⟨fs72tr, hOfs72tr, hRfs72tr⟩ := hx72.1.keep hOgs51tr
              have hKfs72tr : jokO _ (jFs 1) fs72tr := hW _ _ id hOfs72tr
              have hFfs72tr_1 := hRfs72tr _ _ hFgs51tr_1
              have hFfs72tr_2 := hRfs72tr _ _ hFgs51tr_2
              have hFfs72tr_3 := hRfs72tr _ _ hFgs51tr_3
              have hFfs72tr_4 := hRfs72tr _ _ hFgs51tr_4
              have ha_S := (hX72_4 s (hAB s (List.mem_cons_of_mem _ List.mem_cons_self))).trans ha_S
              have ha_X := (hX72_4 xx (hAB xx (List.mem_cons_of_mem _ (List.mem_cons_of_mem _ List.mem_cons_self)))).trans ha_X
              have ha_Y := (hX72_4 yy (hAB yy (List.mem_cons_of_mem _ (List.mem_cons_of_mem _ (List.mem_cons_of_mem _ List.mem_cons_self))))).trans ha_Y
              have ha_Z := (hX72_4 zz (hAB zz (List.mem_cons_of_mem _ (List.mem_cons_of_mem _ (List.mem_cons_of_mem _ (List.mem_cons_of_mem _ List.mem_cons_self)))))).trans ha_Z
              have ha_SB := (hX72_4 sB (hCB sB (List.mem_cons_of_mem _ List.mem_cons_self))).trans ha_SB
              have ha_XB := (hX72_4 xxB (hCB xxB (List.mem_cons_of_mem _ (List.mem_cons_of_mem _ List.mem_cons_self)))).trans ha_XB
              have ha_YB := (hX72_4 yyB (hCB yyB (List.mem_cons_of_mem _ (List.mem_cons_of_mem _ (List.mem_cons_of_mem _ List.mem_cons_self))))).trans ha_YB
              have ha_ZB := (hX72_4 zzB (hCB zzB (List.mem_cons_of_mem _ (List.mem_cons_of_mem _ (List.mem_cons_of_mem _ (List.mem_cons_of_mem _ List.mem_cons_self)))))).trans ha_ZB
              obtain ⟨y72, rfl, hl72, hh72, hP72_0⟩ := hr72
              try simp only [hz69.eq] at hP72_0
              have hFv72_0 := hfv72_0.get hOfs72tr
              try simp only [hz69.eq] at hfp72_0
              have hzf72_0 : jEq fv72_0.toInt ((g6n51.toInt) + 1) := hfp72_0
              clear hfp72_0
              have hFv72_1 := hfv72_1.get hOfs72tr
              try simp only [hz69.eq] at hfp72_1
              have hsb72_1 : MT = fv72_1 := (jI_inj.mp hfp72_1).symm
              subst hsb72_1
              have hFv72_2 := hfv72_2.get hOfs72tr
              try simp only [hz69.eq] at hfp72_2
              have hsb72_2 : g = fv72_2 := (jI_inj.mp hfp72_2).symm
              subst hsb72_2
              obtain ⟨S72, hS72, hSn72, hSo72⟩ := hX72_0
              obtain ⟨X72, hXa72, hXn72, hXo72⟩ := hX72_1
              obtain ⟨Y72, hYa72, hYn72, hYo72⟩ := hX72_2
              obtain ⟨Z72, hZa72, hZn72, hZo72⟩ := hX72_3
              obtain ⟨hN_S72, hv_S72⟩ := WT_rngI (r := ((-2147483648), 2147483647)) hW id rfl hS72
              clear hN_S72
              obtain ⟨hN_X72, hv_X72⟩ := WT_rngI (r := ((-2147483648), 2147483647)) hW id rfl hXa72
              clear hN_X72
              obtain ⟨hN_Y72, hv_Y72⟩ := WT_rngI (r := ((-2147483648), 2147483647)) hW id rfl hYa72
              clear hN_Y72
              obtain ⟨hN_Z72, hv_Z72⟩ := WT_rngI (r := ((-2147483648), 2147483647)) hW id rfl hZa72
              clear hN_Z72
              refine Jz_if_ne (tgt := 81) jEq.rf dX6_join_75 (by decide) (fun c75 => ?_) (fun c75 => ?_)
              · refine Jz_iinc 1 dX6_join_81 rfl rfl (by decide) jEq.rf (by decide) (by omega) (by omega) (fun y81 he81 => ?_)
                refine J_goto (tgt := 51) dX6_join_84 (by decide) ?_
                refine J.mask [true, true, true, true, true, true] ?_
                exact ih51 _ y81 fs72tr fv72_0 S72 X72 Y72 Z72 hW he ha0 hb_md hb_tr hb_ro hb_s hb_xx hb_yy hb_zz hb_rb hb_sB hb_xxB hb_yyB hb_zzB hb_sT hb_xxT hb_yyT hb_zzT hfp hO_a0 hK_a0 hO_ro hK_ro hO_rb hK_rb hOfs72tr hFfs72tr_1 hFfs72tr_2 hFfs72tr_3 hFfs72tr_4 hFv72_1 hFv72_2 hFv72_0 hS72 hXa72 hYa72 hZa72 ha_S ha_X ha_Y ha_Z ha_SB ha_XB ha_YB ha_ZB (by (try simp only [he81.eq, hzf72_0.eq, true_and, and_true]) <;> omega) (by (try simp only [he81.eq, hzf72_0.eq, true_and, and_true]) <;> omega) (fun j hj => by rw [hzf72_0.eq] at hj; by_cases c : (j : Int) = g6n51.toInt; (have e : j = g6n51.toInt.toNat := by omega); subst e; rw [hSn72, htp]; rw [hSo72 j (by omega)]; exact hts j (by omega)) (by rw [hzf72_0.eq, show (g6n51.toInt + 1).toNat = g6n51.toInt.toNat + 1 by omega]; exact hjv.lay (by rw [hXn72, htp]) (by rw [hYn72, htp]) (by rw [hZn72, htp]) hXo72 hYo72 hZo72) (by rw [hzf72_0.eq, show (g6n51.toInt + 1).toNat = g6n51.toInt.toNat + 1 by omega]; exact hcc) (by (try simp only [he81.eq, hzf72_0.eq, true_and, and_true]) <;> omega)
              · exact False.elim (by omega)
        refine J.mask [true, true, true, true, true, true] ?_
        exact L51 _ _ y48 fs45tr n S45 X45 Y45 Z45 hW he ha0 hb_md hb_tr hb_ro hb_s hb_xx hb_yy hb_zz hb_rb hb_sB hb_xxB hb_yyB hb_zzB hb_sT hb_xxT hb_yyT hb_zzT hfp hO_a0 hK_a0 hO_ro hK_ro hO_rb hK_rb hOfs45tr hFfs45tr_1 hFfs45tr_2 hFfs45tr_3 hFfs45tr_4 hFv45_0 hFv45_1 hFv45_2 hS45 hXa45 hYa45 hZa45 ha_S ha_X ha_Y ha_Z ha_SB ha_XB ha_YB ha_ZB (by (try simp only [he48.eq, true_and, and_true]) <;> omega) (by (try simp only [he48.eq, true_and, and_true]) <;> omega) (fun j hj => by rw [hSe45 j hj]; unfold jTj; rw [if_pos (by omega)]) (by intro i hi; rw [hXe45 i (by omega), hYe45 i (by omega), hZe45 i (by omega)]; exact (hp11.congr (fun q hq => by unfold jTj; rw [if_pos hq])) i hi) (hp12.congr (fun q hq => by unfold jTj; rw [if_pos hq])) (Nat.lt_succ_self _)
      · exact False.elim (by omega)
