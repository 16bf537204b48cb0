set_option maxRecDepth 100000 in
set_option maxHeartbeats 8000000 in
theorem w_X6_join_ok {tS : jTS} (d : Nat) (V0 : jH) (a0 : Nat) (x1 : Int32) (x2 : Int32) (k : Int32) (md : Nat) (tr : Nat) (f : Nat → Option Nat) (ro : Nat) (M : Int32) (g : Int32) (n : Int32) (s : Nat) (xx : Nat) (yy : Nat) (zz : Nat) (S : Nat → Int32) (X : Nat → Int32) (Y : Nat → Int32) (Z : Nat → Int32) (rb : Nat) (MB : Int32) (gB : Int32) (nB : Int32) (sB : Nat) (xxB : Nat) (yyB : Nat) (zzB : Nat) (SB : Nat → Int32) (XB : Nat → Int32) (YB : Nat → Int32) (ZB : Nat → Int32) (MT : Int32) (gT : Int32) (nT : Int32) (sT : Nat) (xxT : Nat) (yyT : Nat) (zzT : Nat) (ST : Nat → Int32) (XT : Nat → Int32) (YT : Nat → Int32) (ZT : Nat → Int32) (hd : 4 ≤ d) (hW : WT V0) (ha0 : jis V0 (.inr 4) a0) (hf_k : jfI V0 a0 4 1 k) (hr_md : jfR V0 a0 4 0 md) (hr_tr : jfR V0 a0 4 2 tr) (ha_f : V0 md = some (.inl (4, 16, .inr (.inr (.inr (.inr f)))))) (hf_M : jfI V0 ro 1 0 M) (hf_g : jfI V0 ro 1 5 g) (hf_n : jfI V0 ro 1 6 n) (hr_s : jfR V0 ro 1 1 s) (hr_xx : jfR V0 ro 1 2 xx) (hr_yy : jfR V0 ro 1 3 yy) (hr_zz : jfR V0 ro 1 4 zz) (ha_S : V0 s = some (.inl (6, 60, .inl S))) (ha_X : V0 xx = some (.inl (34, 61, .inl X))) (ha_Y : V0 yy = some (.inl (35, 61, .inl Y))) (ha_Z : V0 zz = some (.inl (36, 61, .inl Z))) (hm_ro : M.toInt = 60) (hn_ro : n.toInt ≤ 60) (hfo : f x1.toInt.toNat = some ro) (hf_MB : jfI V0 rb 1 0 MB) (hf_gB : jfI V0 rb 1 5 gB) (hf_nB : jfI V0 rb 1 6 nB) (hr_sB : jfR V0 rb 1 1 sB) (hr_xxB : jfR V0 rb 1 2 xxB) (hr_yyB : jfR V0 rb 1 3 yyB) (hr_zzB : jfR V0 rb 1 4 zzB) (ha_SB : V0 sB = some (.inl (6, 60, .inl SB))) (ha_XB : V0 xxB = some (.inl (34, 61, .inl XB))) (ha_YB : V0 yyB = some (.inl (35, 61, .inl YB))) (ha_ZB : V0 zzB = some (.inl (36, 61, .inl ZB))) (hm_rb : MB.toInt = 60) (hn_rb : nB.toInt ≤ 60) (hfb : f x2.toInt.toNat = some rb) (hf_MT : jfI V0 tr 1 0 MT) (hf_gT : jfI V0 tr 1 5 gT) (hf_nT : jfI V0 tr 1 6 nT) (hr_sT : jfR V0 tr 1 1 sT) (hr_xxT : jfR V0 tr 1 2 xxT) (hr_yyT : jfR V0 tr 1 3 yyT) (hr_zzT : jfR V0 tr 1 4 zzT) (ha_ST : V0 sT = some (.inl (6, 120, .inl ST))) (ha_XT : V0 xxT = some (.inl (34, 121, .inl XT))) (ha_YT : V0 yyT = some (.inl (35, 121, .inl YT))) (ha_ZT : V0 zzT = some (.inl (36, 121, .inl ZT))) (hm_tr : MT.toInt = 120) (hn_tr : nT.toInt ≤ 120) (hAB : ∀ b ∈ [ro, s, xx, yy, zz], b ∉ [tr, sT, xxT, yyT, zzT]) (hBA : ∀ b ∈ [tr, sT, xxT, yyT, zzT], b ∉ [ro, s, xx, yy, zz]) (hCB : ∀ b ∈ [rb, sB, xxB, yyB, zzB], b ∉ [tr, sT, xxT, yyT, zzT]) (hp0 : 0 ≤ x1.toInt) (hp1 : x1.toInt < k.toInt) (hp2 : 0 ≤ x2.toInt) (hp3 : x2.toInt < k.toInt) (hp4 : 0 ≤ g.toInt) (hp5 : g.toInt ≤ 3) (hp6 : g.toInt = gB.toInt) (hp7 : ∀ j : Nat, (j : Int) < nB.toInt → 0 ≤ (SB j).toInt ∧ (SB j).toInt < jdir gB.toInt) (hp8 : (XT 0).toInt = 0) (hp9 : (YT 0).toInt = 0) (hp10 : (ZT 0).toInt = 0) (hp11 : jrv g.toInt (fun q => (S q).toInt) n.toInt.toNat X Y Z) (hp12 : jav g.toInt (fun q => (S q).toInt) n.toInt.toNat) (hp13 : jav g.toInt (jTj (fun q => (S q).toInt) n.toInt.toNat (fun q => (SB q).toInt)) (n.toInt + nB.toInt).toNat) (hp14 : (n.toInt + nB.toInt) ≤ 60) : jTot tS mX6_join d [.ref a0, .int x1, .int x2] V0 0 0 (fun r V => (jPost [.inr 1, .inl 6, .inl 34, .inl 35, .inl 36] V0 (fun r _ => ∃ y : Int32, r = some (.int y) ∧ ((-2147483648) ≤ y.toInt) ∧ (y.toInt ≤ 2147483647) ∧ (y.toInt = (n.toInt + nB.toInt)))) r V ∧ (∃ S2 X2 Y2 Z2 : Nat → Int32, jrw V ro s xx yy zz 60 g.toInt (n.toInt + nB.toInt) S2 X2 Y2 Z2 ∧ (∀ j : Nat, (j : Int) < n.toInt + nB.toInt → (S2 j).toInt = (jTj (fun q => (S q).toInt) n.toInt.toNat (fun q => (SB q).toInt)) j) ∧ jrv g.toInt (jTj (fun q => (S q).toInt) n.toInt.toNat (fun q => (SB q).toInt)) (n.toInt + nB.toInt).toNat X2 Y2 Z2) ∧ (∃ (g2 n2 : Int) (S2 X2 Y2 Z2 : Nat → Int32), jrw V tr sT xxT yyT zzT 120 g2 n2 S2 X2 Y2 Z2 ∧ (X2 0).toInt = 0 ∧ (Y2 0).toInt = 0 ∧ (Z2 0).toInt = 0) ∧ jfp [ro, s, xx, yy, zz, tr, sT, xxT, yyT, zzT] V0 V) := by
  refine jTot.of_J [some (.ref a0), some (.int x1), some (.int x2), none, none, none] moX6_join (Nat.le_of_ble_eq_true rfl) rfl ?_
  have hrx1 := j_rng x1
  have hrx2 := j_rng x2
  have he : jeff [.inr 1, .inl 6, .inl 34, .inl 35, .inl 36] V0 V0 := jeff.refl _ _
  have hfp : jfp [ro, s, xx, yy, zz, tr, sT, xxT, yyT, zzT] V0 V0 := jfp.rf
  obtain ⟨fs_a0, hO_a0, hK_a0⟩ := WT_obj hW id ha0
  have hF_k := hf_k.get hO_a0
  have hrk : 0 ≤ k.toInt ∧ k.toInt ≤ 16 := jok_rngI hK_a0 rfl hF_k
  have hF_md := hr_md.get hO_a0
  obtain ⟨w_md, hFq_md, b_md, hbq_md, hb_md⟩ := hK_a0.2 0 (.inr (some (.inl 4))) rfl
  cases hF_md.symm.trans (hFq_md.trans (congrArg some hbq_md))
  have hF_tr := hr_tr.get hO_a0
  obtain ⟨w_tr, hFq_tr, b_tr, hbq_tr, hb_tr⟩ := hK_a0.2 2 (.inr (some (.inr 1))) rfl
  cases hF_tr.symm.trans (hFq_tr.trans (congrArg some hbq_tr))
  have hb_ro : jis V0 (.inr 1) ro := by obtain ⟨q1, q2, q3⟩ := hf_M; exact ⟨_, q2, rfl⟩
  obtain ⟨fs_ro, hO_ro, hK_ro⟩ := WT_obj hW id hb_ro
  have hF_M := hf_M.get hO_ro
  have hrM : 0 ≤ M.toInt ∧ M.toInt ≤ 120 := jok_rngI hK_ro rfl hF_M
  have hF_g := hf_g.get hO_ro
  have hrg : (-2147483648) ≤ g.toInt ∧ g.toInt ≤ 2147483647 := jok_rngI hK_ro rfl hF_g
  have hF_n := hf_n.get hO_ro
  have hrn : 0 ≤ n.toInt ∧ n.toInt ≤ 120 := jok_rngI hK_ro rfl hF_n
  have hF_s := hr_s.get hO_ro
  have hb_s : jis V0 (.inl 6) s := ⟨_, ha_S, rfl⟩
  obtain ⟨hN_S, hv_S⟩ := WT_rngI (r := (-2147483648, 2147483647)) hW id rfl ha_S
  clear hN_S
  have hF_xx := hr_xx.get hO_ro
  have hb_xx : jis V0 (.inl 34) xx := ⟨_, ha_X, rfl⟩
  obtain ⟨hN_X, hv_X⟩ := WT_rngI (r := (-2147483648, 2147483647)) hW id rfl ha_X
  clear hN_X
  have hF_yy := hr_yy.get hO_ro
  have hb_yy : jis V0 (.inl 35) yy := ⟨_, ha_Y, rfl⟩
  obtain ⟨hN_Y, hv_Y⟩ := WT_rngI (r := (-2147483648, 2147483647)) hW id rfl ha_Y
  clear hN_Y
  have hF_zz := hr_zz.get hO_ro
  have hb_zz : jis V0 (.inl 36) zz := ⟨_, ha_Z, rfl⟩
  obtain ⟨hN_Z, hv_Z⟩ := WT_rngI (r := (-2147483648, 2147483647)) hW id rfl ha_Z
  clear hN_Z
  have hb_rb : jis V0 (.inr 1) rb := by obtain ⟨q1, q2, q3⟩ := hf_MB; exact ⟨_, q2, rfl⟩
  obtain ⟨fs_rb, hO_rb, hK_rb⟩ := WT_obj hW id hb_rb
  have hF_MB := hf_MB.get hO_rb
  have hrMB : 0 ≤ MB.toInt ∧ MB.toInt ≤ 120 := jok_rngI hK_rb rfl hF_MB
  have hF_gB := hf_gB.get hO_rb
  have hrgB : (-2147483648) ≤ gB.toInt ∧ gB.toInt ≤ 2147483647 := jok_rngI hK_rb rfl hF_gB
  have hF_nB := hf_nB.get hO_rb
  have hrnB : 0 ≤ nB.toInt ∧ nB.toInt ≤ 120 := jok_rngI hK_rb rfl hF_nB
  have hF_sB := hr_sB.get hO_rb
  have hb_sB : jis V0 (.inl 6) sB := ⟨_, ha_SB, rfl⟩
  obtain ⟨hN_SB, hv_SB⟩ := WT_rngI (r := (-2147483648, 2147483647)) hW id rfl ha_SB
  clear hN_SB
  have hF_xxB := hr_xxB.get hO_rb
  have hb_xxB : jis V0 (.inl 34) xxB := ⟨_, ha_XB, rfl⟩
  obtain ⟨hN_XB, hv_XB⟩ := WT_rngI (r := (-2147483648, 2147483647)) hW id rfl ha_XB
  clear hN_XB
  have hF_yyB := hr_yyB.get hO_rb
  have hb_yyB : jis V0 (.inl 35) yyB := ⟨_, ha_YB, rfl⟩
  obtain ⟨hN_YB, hv_YB⟩ := WT_rngI (r := (-2147483648, 2147483647)) hW id rfl ha_YB
  clear hN_YB
  have hF_zzB := hr_zzB.get hO_rb
  have hb_zzB : jis V0 (.inl 36) zzB := ⟨_, ha_ZB, rfl⟩
  obtain ⟨hN_ZB, hv_ZB⟩ := WT_rngI (r := (-2147483648, 2147483647)) hW id rfl ha_ZB
  clear hN_ZB
  obtain ⟨fs_tr, hO_tr, hK_tr⟩ := WT_obj hW id hb_tr
  have hF_MT := hf_MT.get hO_tr
  have hrMT : 0 ≤ MT.toInt ∧ MT.toInt ≤ 120 := jok_rngI hK_tr rfl hF_MT
  have hF_gT := hf_gT.get hO_tr
  have hrgT : (-2147483648) ≤ gT.toInt ∧ gT.toInt ≤ 2147483647 := jok_rngI hK_tr rfl hF_gT
  have hF_nT := hf_nT.get hO_tr
  have hrnT : 0 ≤ nT.toInt ∧ nT.toInt ≤ 120 := jok_rngI hK_tr rfl hF_nT
  have hF_sT := hr_sT.get hO_tr
  have hb_sT : jis V0 (.inl 6) sT := ⟨_, ha_ST, rfl⟩
  obtain ⟨hN_ST, hv_ST⟩ := WT_rngI (r := (-2147483648, 2147483647)) hW id rfl ha_ST
  clear hN_ST
  have hF_xxT := hr_xxT.get hO_tr
  have hb_xxT : jis V0 (.inl 34) xxT := ⟨_, ha_XT, rfl⟩
  obtain ⟨hN_XT, hv_XT⟩ := WT_rngI (r := (-2147483648, 2147483647)) hW id rfl ha_XT
  clear hN_XT
  have hF_yyT := hr_yyT.get hO_tr
  have hb_yyT : jis V0 (.inl 35) yyT := ⟨_, ha_YT, rfl⟩
  obtain ⟨hN_YT, hv_YT⟩ := WT_rngI (r := (-2147483648, 2147483647)) hW id rfl ha_YT
  clear hN_YT
  have hF_zzT := hr_zzT.get hO_tr
  have hb_zzT : jis V0 (.inl 36) zzT := ⟨_, ha_ZT, rfl⟩
  obtain ⟨hN_ZT, hv_ZT⟩ := WT_rngI (r := (-2147483648, 2147483647)) hW id rfl ha_ZT
  clear hN_ZT
  refine J_aload_n dX6_join_0 rfl ?_
  refine J_iload_n dX6_join_1 rfl ?_
  refine Jw_callV1 (q9 := (RX6, TX6, 7)) moX6_rowOf jw_ml_X6_55 jw_im_X6_rowOf jw_se_X6_rowOf ha0 rfl rfl dX6_join_2 (w_X6_rowOf_in (d - 1) _ a0 x1 hO_a0 hF_md hF_k ha_f (by omega) (by omega) (by omega) hfo) (by omega) (Nat.zero_le _) (Nat.zero_le _) (Nat.le_of_ble_eq_true rfl) (fun r2 V2 h2 => ?_)
  obtain ⟨rfl, hE2⟩ := h2
  have hE2 := hE2.symm
  subst hE2
  · refine J_astore_n dX6_join_5 rfl (by decide) ?_
    refine J_aload_n dX6_join_6 rfl ?_
    refine J_iload_n dX6_join_7 rfl ?_
    refine Jw_callV1 (q9 := (RX6, TX6, 7)) moX6_rowOf jw_ml_X6_55 jw_im_X6_rowOf jw_se_X6_rowOf ha0 rfl rfl dX6_join_8 (w_X6_rowOf_in (d - 1) _ a0 x2 hO_a0 hF_md hF_k ha_f (by omega) (by omega) (by omega) hfb) (by omega) (Nat.zero_le _) (Nat.zero_le _) (Nat.le_of_ble_eq_true rfl) (fun r8 V8 h8 => ?_)
    obtain ⟨rfl, hE8⟩ := h8
    have hE8 := hE8.symm
    subst hE8
    · refine J_astore dX6_join_11 rfl (by decide) ?_
      refine J_aload_n dX6_join_13 rfl ?_
      refine J_ifnull dX6_join_14 ?_
      refine J_aload dX6_join_17 rfl ?_
      refine J_ifnonnull (tgt := 25) dX6_join_19 (by decide) ?_
      refine J_aload_n dX6_join_25 rfl ?_
      refine J_get jf_X6_59 dX6_join_26 hO_ro hF_g ?_
      refine J_aload dX6_join_29 rfl ?_
      refine J_get jf_X6_59 dX6_join_31 hO_rb hF_gB ?_
      refine Jz_icmp_eq (tgt := 40) jEq.rf jEq.rf dX6_join_34 (by decide) (fun c34 => ?_) (fun c34 => ?_)
      · refine J_aload_n dX6_join_40 rfl ?_
        refine J_get jf_X6_22 dX6_join_41 hO_a0 hF_tr ?_
        refine J_aload_n dX6_join_44 rfl ?_
        have hdc := jdir_cases g.toInt
        refine Jw_callV1 (q9 := (RX3, TX3, 7)) moX3_become jw_ml_X6_89 jw_im_X3_become jw_se_X3_become hb_tr rfl rfl dX6_join_45 (w_X3_become_z (d - 1) _ tr ro MT g n sT xxT yyT zzT s xx yy zz ST XT YT ZT S X Y Z (by omega) hW  hb_tr hb_ro ⟨_, hO_tr, hF_MT⟩ ⟨_, hO_ro, hF_g⟩ ⟨_, hO_ro, hF_n⟩ ⟨_, hO_tr, hF_sT⟩ ⟨_, hO_tr, hF_xxT⟩ ⟨_, hO_tr, hF_yyT⟩ ⟨_, hO_tr, hF_zzT⟩ ⟨_, hO_ro, hF_s⟩ ⟨_, hO_ro, hF_xx⟩ ⟨_, hO_ro, hF_yy⟩ ⟨_, hO_ro, hF_zz⟩ (fun e => hAB ro List.mem_cons_self (e ▸ List.mem_cons_self)) (fun e => hAB s (List.mem_cons_of_mem _ List.mem_cons_self) (e ▸ (List.mem_cons_of_mem _ List.mem_cons_self))) (fun e => hAB xx (List.mem_cons_of_mem _ (List.mem_cons_of_mem _ List.mem_cons_self)) (e ▸ (List.mem_cons_of_mem _ (List.mem_cons_of_mem _ List.mem_cons_self)))) (fun e => hAB yy (List.mem_cons_of_mem _ (List.mem_cons_of_mem _ (List.mem_cons_of_mem _ List.mem_cons_self))) (e ▸ (List.mem_cons_of_mem _ (List.mem_cons_of_mem _ (List.mem_cons_of_mem _ List.mem_cons_self))))) (fun e => hAB zz (List.mem_cons_of_mem _ (List.mem_cons_of_mem _ (List.mem_cons_of_mem _ (List.mem_cons_of_mem _ List.mem_cons_self)))) (e ▸ (List.mem_cons_of_mem _ (List.mem_cons_of_mem _ (List.mem_cons_of_mem _ (List.mem_cons_of_mem _ List.mem_cons_self)))))) ha_ST ha_XT ha_YT ha_ZT ha_S ha_X ha_Y ha_Z (by omega) (by omega) (by omega) (by omega) (by omega)) (by omega) (Nat.zero_le _) (Nat.zero_le _) (Nat.le_of_ble_eq_true rfl) (fun r45 V45 h45 => ?_)
        obtain ⟨h45, hX45_0, hX45_1, hX45_2, hX45_3, hX45_4, ⟨fv45_0, hfv45_0, hfp45_0⟩, ⟨fv45_1, hfv45_1, hfp45_1⟩, ⟨fv45_2, hfv45_2, hfp45_2⟩⟩ := h45
        obtain ⟨hW, hx45, hr45⟩ := h45
        have he := he.trans (hx45.sub (jsub_of rfl))
        have hfp := hfp.trans (hX45_4.sub (fun b hb => by simp only [List.mem_cons, List.not_mem_nil, or_false] at hb ⊢; first | (rcases hb with h9 | h9 | h9 | h9 | h9 <;> simp only [h9, true_or, or_true]) | omega))
        have ha0 := ha0.mono hx45.1
        have hb_md := hb_md.mono hx45.1
        have hb_tr := hb_tr.mono hx45.1
        have hb_ro := hb_ro.mono hx45.1
        have hb_s := hb_s.mono hx45.1
        have hb_xx := hb_xx.mono hx45.1
        have hb_yy := hb_yy.mono hx45.1
        have hb_zz := hb_zz.mono hx45.1
        have hb_rb := hb_rb.mono hx45.1
        have hb_sB := hb_sB.mono hx45.1
        have hb_xxB := hb_xxB.mono hx45.1
        have hb_yyB := hb_yyB.mono hx45.1
        have hb_zzB := hb_zzB.mono hx45.1
        have hb_sT := hb_sT.mono hx45.1
        have hb_xxT := hb_xxT.mono hx45.1
        have hb_yyT := hb_yyT.mono hx45.1
        have hb_zzT := hb_zzT.mono hx45.1
        have hO_a0 := hx45.2 _ _ hO_a0 (jnot_of rfl)
        have hK_a0 := hK_a0.mono hx45.1
        have hO_ro := (hX45_4 ro (hAB ro List.mem_cons_self)).trans hO_ro
        have hK_ro := hK_ro.mono hx45.1
        have hO_rb := (hX45_4 rb (hCB rb List.mem_cons_self)).trans hO_rb
        have hK_rb := hK_rb.mono hx45.1
        obtain ⟨fs45tr, hOfs45tr, hRfs45tr⟩ := hx45.1.keep hO_tr
        have hKfs45tr : jokO _ (jFs 1) fs45tr := hW _ _ id hOfs45tr
        have hFfs45tr_1 := hRfs45tr _ _ hF_sT
        have hFfs45tr_2 := hRfs45tr _ _ hF_xxT
        have hFfs45tr_3 := hRfs45tr _ _ hF_yyT
        have hFfs45tr_4 := hRfs45tr _ _ hF_zzT
        have ha_S := (hX45_4 s (hAB s (List.mem_cons_of_mem _ List.mem_cons_self))).trans ha_S
        have ha_X := (hX45_4 xx (hAB xx (List.mem_cons_of_mem _ (List.mem_cons_of_mem _ List.mem_cons_self)))).trans ha_X
        have ha_Y := (hX45_4 yy (hAB yy (List.mem_cons_of_mem _ (List.mem_cons_of_mem _ (List.mem_cons_of_mem _ List.mem_cons_self))))).trans ha_Y
        have ha_Z := (hX45_4 zz (hAB zz (List.mem_cons_of_mem _ (List.mem_cons_of_mem _ (List.mem_cons_of_mem _ (List.mem_cons_of_mem _ List.mem_cons_self)))))).trans ha_Z
        have ha_SB := (hX45_4 sB (hCB sB (List.mem_cons_of_mem _ List.mem_cons_self))).trans ha_SB
        have ha_XB := (hX45_4 xxB (hCB xxB (List.mem_cons_of_mem _ (List.mem_cons_of_mem _ List.mem_cons_self)))).trans ha_XB
        have ha_YB := (hX45_4 yyB (hCB yyB (List.mem_cons_of_mem _ (List.mem_cons_of_mem _ (List.mem_cons_of_mem _ List.mem_cons_self))))).trans ha_YB
        have ha_ZB := (hX45_4 zzB (hCB zzB (List.mem_cons_of_mem _ (List.mem_cons_of_mem _ (List.mem_cons_of_mem _ (List.mem_cons_of_mem _ List.mem_cons_self)))))).trans ha_ZB
        cases hr45
        have hFv45_0 := hfv45_0.get hOfs45tr
        have hsb45_0 : MT = fv45_0 := (jI_inj.mp hfp45_0).symm
        subst hsb45_0
        have hFv45_1 := hfv45_1.get hOfs45tr
        have hsb45_1 : g = fv45_1 := (jI_inj.mp hfp45_1).symm
        subst hsb45_1
        have hFv45_2 := hfv45_2.get hOfs45tr
        have hsb45_2 : n = fv45_2 := (jI_inj.mp hfp45_2).symm
        subst hsb45_2
        obtain ⟨S45, hS45, hSe45⟩ := hX45_0
        obtain ⟨X45, hXa45, hXe45⟩ := hX45_1
        obtain ⟨Y45, hYa45, hYe45⟩ := hX45_2
        obtain ⟨Z45, hZa45, hZe45⟩ := hX45_3
        obtain ⟨hN_S45, hv_S45⟩ := WT_rngI (r := ((-2147483648), 2147483647)) hW id rfl hS45
        clear hN_S45
        obtain ⟨hN_X45, hv_X45⟩ := WT_rngI (r := ((-2147483648), 2147483647)) hW id rfl hXa45
        clear hN_X45
        obtain ⟨hN_Y45, hv_Y45⟩ := WT_rngI (r := ((-2147483648), 2147483647)) hW id rfl hYa45
        clear hN_Y45
        obtain ⟨hN_Z45, hv_Z45⟩ := WT_rngI (r := ((-2147483648), 2147483647)) hW id rfl hZa45
        clear hN_Z45
        refine Jz_iconst 0 dX6_join_48 (by decide) (fun y48 he48 => ?_)
        refine J_istore dX6_join_49 rfl (by decide) ?_
        have L51 : ∀ (N : Nat) (V : jH) (i5n51 : Int32) (gs51tr : List Value) (g6n51 : Int32) (F6n51 : Nat → Int32) (F34n51 : Nat → Int32) (F35n51 : Nat → Int32) (F36n51 : Nat → Int32), WT V → jeff [.inr 1, .inl 6, .inl 34, .inl 35, .inl 36] V0 V → (jis V (.inr 4) a0) → (jis V (.inl 4) md) → (jis V (.inr 1) tr) → (jis V (.inr 1) ro) → (jis V (.inl 6) s) → (jis V (.inl 34) xx) → (jis V (.inl 35) yy) → (jis V (.inl 36) zz) → (jis V (.inr 1) rb) → (jis V (.inl 6) sB) → (jis V (.inl 34) xxB) → (jis V (.inl 35) yyB) → (jis V (.inl 36) zzB) → (jis V (.inl 6) sT) → (jis V (.inl 34) xxT) → (jis V (.inl 35) yyT) → (jis V (.inl 36) zzT) → (jfp [ro, s, xx, yy, zz, tr, sT, xxT, yyT, zzT] V0 V) → (V a0 = some (.inr (4, fs_a0))) → (jokO V (jFs 4) fs_a0) → (V ro = some (.inr (1, fs_ro))) → (jokO V (jFs 1) fs_ro) → (V rb = some (.inr (1, fs_rb))) → (jokO V (jFs 1) fs_rb) → (V tr = some (.inr (1, gs51tr))) → (gs51tr[1]? = some (.ref sT)) → (gs51tr[2]? = some (.ref xxT)) → (gs51tr[3]? = some (.ref yyT)) → (gs51tr[4]? = some (.ref zzT)) → (gs51tr[0]? = some (.int MT)) → (gs51tr[5]? = some (.int g)) → (gs51tr[6]? = some (.int g6n51)) → (V sT = some (.inl (6, 120, .inl F6n51))) → (V xxT = some (.inl (34, 121, .inl F34n51))) → (V yyT = some (.inl (35, 121, .inl F35n51))) → (V zzT = some (.inl (36, 121, .inl F36n51))) → (V s = some (.inl (6, 60, .inl S))) → (V xx = some (.inl (34, 61, .inl X))) → (V yy = some (.inl (35, 61, .inl Y))) → (V zz = some (.inl (36, 61, .inl Z))) → (V sB = some (.inl (6, 60, .inl SB))) → (V xxB = some (.inl (34, 61, .inl XB))) → (V yyB = some (.inl (35, 61, .inl YB))) → (V zzB = some (.inl (36, 61, .inl ZB))) → (0 ≤ i5n51.toInt ∧ i5n51.toInt ≤ nB.toInt) → (g6n51.toInt = n.toInt + i5n51.toInt) → (∀ j : Nat, (j : Int) < g6n51.toInt → (F6n51 j).toInt = (jTj (fun q => (S q).toInt) n.toInt.toNat (fun q => (SB q).toInt)) j) → (jrv g.toInt (jTj (fun q => (S q).toInt) n.toInt.toNat (fun q => (SB q).toInt)) g6n51.toInt.toNat F34n51 F35n51 F36n51) → (jav g.toInt (jTj (fun q => (S q).toInt) n.toInt.toNat (fun q => (SB q).toInt)) g6n51.toInt.toNat) → (300 - i5n51.toInt).toNat < N → J tS mX6_join d 51 [some (.ref a0), some (.int x1), some (.int x2), some (.ref ro), some (.ref rb), some (.int i5n51)] [] V 0 0 (fun r V => (jPost [.inr 1, .inl 6, .inl 34, .inl 35, .inl 36] V0 (fun r _ => ∃ y : Int32, r = some (.int y) ∧ ((-2147483648) ≤ y.toInt) ∧ (y.toInt ≤ 2147483647) ∧ (y.toInt = (n.toInt + nB.toInt)))) r V ∧ (∃ S2 X2 Y2 Z2 : Nat → Int32, jrw V ro s xx yy zz 60 g.toInt (n.toInt + nB.toInt) S2 X2 Y2 Z2 ∧ (∀ j : Nat, (j : Int) < n.toInt + nB.toInt → (S2 j).toInt = (jTj (fun q => (S q).toInt) n.toInt.toNat (fun q => (SB q).toInt)) j) ∧ jrv g.toInt (jTj (fun q => (S q).toInt) n.toInt.toNat (fun q => (SB q).toInt)) (n.toInt + nB.toInt).toNat X2 Y2 Z2) ∧ (∃ (g2 n2 : Int) (S2 X2 Y2 Z2 : Nat → Int32), jrw V tr sT xxT yyT zzT 120 g2 n2 S2 X2 Y2 Z2 ∧ (X2 0).toInt = 0 ∧ (Y2 0).toInt = 0 ∧ (Z2 0).toInt = 0) ∧ jfp [ro, s, xx, yy, zz, tr, sT, xxT, yyT, zzT] V0 V) := by
          intro N
          induction N with
          | zero => intro V i5n51 gs51tr g6n51 F6n51 F34n51 F35n51 F36n51 hW he ha0 hb_md hb_tr hb_ro hb_s hb_xx hb_yy hb_zz hb_rb hb_sB hb_xxB hb_yyB hb_zzB hb_sT hb_xxT hb_yyT hb_zzT hfp hO_a0 hK_a0 hO_ro hK_ro hO_rb hK_rb hOgs51tr hFgs51tr_1 hFgs51tr_2 hFgs51tr_3 hFgs51tr_4 hFgs51tr_0 hFgs51tr_5 hFgs51tr_6 hAF6n51 hAF34n51 hAF35n51 hAF36n51 ha_S ha_X ha_Y ha_Z ha_SB ha_XB ha_YB ha_ZB hi htn hts hjv hav hm; exact absurd hm (Nat.not_lt_zero _)
          | succ N ih =>
            intro V i5n51 gs51tr g6n51 F6n51 F34n51 F35n51 F36n51 hW he ha0 hb_md hb_tr hb_ro hb_s hb_xx hb_yy hb_zz hb_rb hb_sB hb_xxB hb_yyB hb_zzB hb_sT hb_xxT hb_yyT hb_zzT hfp hO_a0 hK_a0 hO_ro hK_ro hO_rb hK_rb hOgs51tr hFgs51tr_1 hFgs51tr_2 hFgs51tr_3 hFgs51tr_4 hFgs51tr_0 hFgs51tr_5 hFgs51tr_6 hAF6n51 hAF34n51 hAF35n51 hAF36n51 ha_S ha_X ha_Y ha_Z ha_SB ha_XB ha_YB ha_ZB hi htn hts hjv hav hm
            have ih51 := ih
            have hri5 := j_rng i5n51
            have hKgs51tr : jokO V (jFs 1) gs51tr := hW _ _ id hOgs51tr
            have hrgg6n51 : 0 ≤ g6n51.toInt ∧ g6n51.toInt ≤ 120 := jok_rngI hKgs51tr rfl hFgs51tr_6
            obtain ⟨hNF6n51, hvF6n51⟩ := WT_rngI (r := ((-2147483648), 2147483647)) hW id rfl hAF6n51
            clear hNF6n51
            obtain ⟨hNF34n51, hvF34n51⟩ := WT_rngI (r := ((-2147483648), 2147483647)) hW id rfl hAF34n51
            clear hNF34n51
            obtain ⟨hNF35n51, hvF35n51⟩ := WT_rngI (r := ((-2147483648), 2147483647)) hW id rfl hAF35n51
            clear hNF35n51
            obtain ⟨hNF36n51, hvF36n51⟩ := WT_rngI (r := ((-2147483648), 2147483647)) hW id rfl hAF36n51
            clear hNF36n51
            refine J_iload dX6_join_51 rfl ?_
            refine J_aload dX6_join_53 rfl ?_
            refine J_get jf_X6_69 dX6_join_55 hO_rb hF_nB ?_
            refine Jz_icmp_ge (tgt := 87) jEq.rf jEq.rf dX6_join_58 (by decide) (fun c58 => ?_) (fun c58 => ?_)
            · refine J_aload_n dX6_join_87 rfl ?_
              refine J_get jf_X6_22 dX6_join_88 hO_a0 hF_tr ?_
              refine J_get jf_X6_69 dX6_join_91 hOgs51tr hFgs51tr_6 ?_
              refine Jz_bipush 60 dX6_join_94 (by decide) (fun y94 he94 => ?_)
              refine Jz_icmp_le (tgt := 102) jEq.rf he94 dX6_join_96 (by decide) (fun c96 => ?_) (fun c96 => ?_)
              · refine J_aload_n dX6_join_102 rfl ?_
                refine J_aload_n dX6_join_103 rfl ?_
                refine J_get jf_X6_22 dX6_join_104 hO_a0 hF_tr ?_
                have hfin : g6n51.toInt = n.toInt + nB.toInt := by omega
                refine Jw_callV1 (q9 := (RX3, TX3, 7)) moX3_become jw_ml_X6_89 jw_im_X3_become jw_se_X3_become hb_ro rfl rfl dX6_join_107 (w_X3_become_z (d - 1) _ ro tr M g g6n51 s xx yy zz sT xxT yyT zzT S X Y Z F6n51 F34n51 F35n51 F36n51 (by omega) hW  hb_ro hb_tr ⟨_, hO_ro, hF_M⟩ ⟨_, hOgs51tr, hFgs51tr_5⟩ ⟨_, hOgs51tr, hFgs51tr_6⟩ ⟨_, hO_ro, hF_s⟩ ⟨_, hO_ro, hF_xx⟩ ⟨_, hO_ro, hF_yy⟩ ⟨_, hO_ro, hF_zz⟩ ⟨_, hOgs51tr, hFgs51tr_1⟩ ⟨_, hOgs51tr, hFgs51tr_2⟩ ⟨_, hOgs51tr, hFgs51tr_3⟩ ⟨_, hOgs51tr, hFgs51tr_4⟩ (fun e => hBA tr List.mem_cons_self (e ▸ List.mem_cons_self)) (fun e => hBA sT (List.mem_cons_of_mem _ List.mem_cons_self) (e ▸ (List.mem_cons_of_mem _ List.mem_cons_self))) (fun e => hBA xxT (List.mem_cons_of_mem _ (List.mem_cons_of_mem _ List.mem_cons_self)) (e ▸ (List.mem_cons_of_mem _ (List.mem_cons_of_mem _ List.mem_cons_self)))) (fun e => hBA yyT (List.mem_cons_of_mem _ (List.mem_cons_of_mem _ (List.mem_cons_of_mem _ List.mem_cons_self))) (e ▸ (List.mem_cons_of_mem _ (List.mem_cons_of_mem _ (List.mem_cons_of_mem _ List.mem_cons_self))))) (fun e => hBA zzT (List.mem_cons_of_mem _ (List.mem_cons_of_mem _ (List.mem_cons_of_mem _ (List.mem_cons_of_mem _ List.mem_cons_self)))) (e ▸ (List.mem_cons_of_mem _ (List.mem_cons_of_mem _ (List.mem_cons_of_mem _ (List.mem_cons_of_mem _ List.mem_cons_self)))))) ha_S ha_X ha_Y ha_Z hAF6n51 hAF34n51 hAF35n51 hAF36n51 (by omega) (by omega) (by omega) (by omega) (by omega)) (by omega) (Nat.zero_le _) (Nat.zero_le _) (Nat.le_of_ble_eq_true rfl) (fun r107 V107 h107 => ?_)
                obtain ⟨h107, hX107_0, hX107_1, hX107_2, hX107_3, hX107_4, ⟨fv107_0, hfv107_0, hfp107_0⟩, ⟨fv107_1, hfv107_1, hfp107_1⟩, ⟨fv107_2, hfv107_2, hfp107_2⟩⟩ := h107
                obtain ⟨hW, hx107, hr107⟩ := h107
                have he := he.trans (hx107.sub (jsub_of rfl))
                have hfp := hfp.trans (hX107_4.sub (fun b hb => by simp only [List.mem_cons, List.not_mem_nil, or_false] at hb ⊢; first | (rcases hb with h9 | h9 | h9 | h9 | h9 <;> simp only [h9, true_or, or_true]) | omega))
                have ha0 := ha0.mono hx107.1
                have hb_md := hb_md.mono hx107.1
                have hb_tr := hb_tr.mono hx107.1
                have hb_ro := hb_ro.mono hx107.1
                have hb_s := hb_s.mono hx107.1
                have hb_xx := hb_xx.mono hx107.1
                have hb_yy := hb_yy.mono hx107.1
                have hb_zz := hb_zz.mono hx107.1
                have hb_rb := hb_rb.mono hx107.1
                have hb_sB := hb_sB.mono hx107.1
                have hb_xxB := hb_xxB.mono hx107.1
                have hb_yyB := hb_yyB.mono hx107.1
                have hb_zzB := hb_zzB.mono hx107.1
                have hb_sT := hb_sT.mono hx107.1
                have hb_xxT := hb_xxT.mono hx107.1
                have hb_yyT := hb_yyT.mono hx107.1
                have hb_zzT := hb_zzT.mono hx107.1
                have hO_a0 := hx107.2 _ _ hO_a0 (jnot_of rfl)
                have hK_a0 := hK_a0.mono hx107.1
                obtain ⟨fs107ro, hOfs107ro, hRfs107ro⟩ := hx107.1.keep hO_ro
                have hKfs107ro : jokO _ (jFs 1) fs107ro := hW _ _ id hOfs107ro
                have hFfs107ro_1 := hRfs107ro _ _ hF_s
                have hFfs107ro_2 := hRfs107ro _ _ hF_xx
                have hFfs107ro_3 := hRfs107ro _ _ hF_yy
                have hFfs107ro_4 := hRfs107ro _ _ hF_zz
                obtain ⟨fs107rb, hOfs107rb, hRfs107rb⟩ := hx107.1.keep hO_rb
                have hKfs107rb : jokO _ (jFs 1) fs107rb := hW _ _ id hOfs107rb
                have hFfs107rb_1 := hRfs107rb _ _ hF_sB
                have hFfs107rb_2 := hRfs107rb _ _ hF_xxB
                have hFfs107rb_3 := hRfs107rb _ _ hF_yyB
                have hFfs107rb_4 := hRfs107rb _ _ hF_zzB
                have hOgs51tr := (hX107_4 tr (hBA tr List.mem_cons_self)).trans hOgs51tr
                have hKgs51tr := hKgs51tr.mono hx107.1
                have hAF6n51 := (hX107_4 sT (hBA sT (List.mem_cons_of_mem _ List.mem_cons_self))).trans hAF6n51
                have hAF34n51 := (hX107_4 xxT (hBA xxT (List.mem_cons_of_mem _ (List.mem_cons_of_mem _ List.mem_cons_self)))).trans hAF34n51
                have hAF35n51 := (hX107_4 yyT (hBA yyT (List.mem_cons_of_mem _ (List.mem_cons_of_mem _ (List.mem_cons_of_mem _ List.mem_cons_self))))).trans hAF35n51
                have hAF36n51 := (hX107_4 zzT (hBA zzT (List.mem_cons_of_mem _ (List.mem_cons_of_mem _ (List.mem_cons_of_mem _ (List.mem_cons_of_mem _ List.mem_cons_self)))))).trans hAF36n51
                cases hr107
                have hFv107_0 := hfv107_0.get hOfs107ro
                have hsb107_0 : M = fv107_0 := (jI_inj.mp hfp107_0).symm
                subst hsb107_0
                have hFv107_1 := hfv107_1.get hOfs107ro
                have hsb107_1 : g = fv107_1 := (jI_inj.mp hfp107_1).symm
                subst hsb107_1
                have hFv107_2 := hfv107_2.get hOfs107ro
                have hsb107_2 : g6n51 = fv107_2 := (jI_inj.mp hfp107_2).symm
                subst hsb107_2
                obtain ⟨S107, hS107, hSe107⟩ := hX107_0
                obtain ⟨X107, hXa107, hXe107⟩ := hX107_1
                obtain ⟨Y107, hYa107, hYe107⟩ := hX107_2
                obtain ⟨Z107, hZa107, hZe107⟩ := hX107_3
                obtain ⟨hN_S107, hv_S107⟩ := WT_rngI (r := ((-2147483648), 2147483647)) hW id rfl hS107
                clear hN_S107
                obtain ⟨hN_X107, hv_X107⟩ := WT_rngI (r := ((-2147483648), 2147483647)) hW id rfl hXa107
                clear hN_X107
                obtain ⟨hN_Y107, hv_Y107⟩ := WT_rngI (r := ((-2147483648), 2147483647)) hW id rfl hYa107
                clear hN_Y107
                obtain ⟨hN_Z107, hv_Z107⟩ := WT_rngI (r := ((-2147483648), 2147483647)) hW id rfl hZa107
                clear hN_Z107
                refine J_aload_n dX6_join_110 rfl ?_
                refine J_get jf_X6_69 dX6_join_111 hOfs107ro hFv107_2 ?_
                exact J_ret (r := some (.int _)) dX6_join_114 ⟨rfl, _, rfl, rfl⟩ (⟨⟨hW, he, ⟨_, rfl, (j_rng _).1, (j_rng _).2, (by omega)⟩⟩, ⟨S107, X107, Y107, Z107, ⟨⟨_, ⟨_, hOfs107ro, hFv107_0⟩, hm_ro⟩, ⟨_, ⟨_, hOfs107ro, hFv107_1⟩, rfl⟩, ⟨_, ⟨_, hOfs107ro, hFv107_2⟩, hfin⟩, ⟨_, hOfs107ro, hFfs107ro_1⟩, ⟨_, hOfs107ro, hFfs107ro_2⟩, ⟨_, hOfs107ro, hFfs107ro_3⟩, ⟨_, hOfs107ro, hFfs107ro_4⟩, hS107, hXa107, hYa107, hZa107⟩, (fun j hj => by rw [hSe107 j (by omega)]; exact hts j (by omega)), (by rw [← hfin]; intro i hi; rw [hXe107 i (by omega), hYe107 i (by omega), hZe107 i (by omega)]; exact hjv i hi)⟩, ⟨_, _, _, _, _, _, ⟨⟨_, ⟨_, hOgs51tr, hFgs51tr_0⟩, hm_tr⟩, ⟨_, ⟨_, hOgs51tr, hFgs51tr_5⟩, rfl⟩, ⟨_, ⟨_, hOgs51tr, hFgs51tr_6⟩, rfl⟩, ⟨_, hOgs51tr, hFgs51tr_1⟩, ⟨_, hOgs51tr, hFgs51tr_2⟩, ⟨_, hOgs51tr, hFgs51tr_3⟩, ⟨_, hOgs51tr, hFgs51tr_4⟩, hAF6n51, hAF34n51, hAF35n51, hAF36n51⟩, (hjv 0 (Nat.zero_le _))⟩, hfp⟩)
              · exact False.elim (by omega)
            · refine J_aload_n dX6_join_61 rfl ?_
              refine J_get jf_X6_22 dX6_join_62 hO_a0 hF_tr ?_
              refine J_aload dX6_join_65 rfl ?_
              refine J_iload dX6_join_67 rfl ?_
              refine Jw_callV1 (q9 := (RX3, TX3, 7)) moX3_direction jw_ml_X6_81 jw_im_X3_direction jw_se_X3_direction hb_rb rfl rfl dX6_join_69 (w_X3_direction_z (d - 1) _ rb i5n51 sB SB (by omega) hW  hb_rb ⟨_, hO_rb, hF_sB⟩ ha_SB (by omega) (by omega) (by omega)) (by omega) (Nat.zero_le _) (Nat.zero_le _) (Nat.le_of_ble_eq_true rfl) (fun r69 V69 h69 => ?_)
              obtain ⟨⟨y69, rfl, hl69, hh69, hP69_0⟩, hE69⟩ := h69
              have hE69 := hE69.symm
              subst hE69
              clear hl69 hh69
              have hz69 : jEq y69.toInt ((SB (i5n51.toInt).toNat).toInt) := hP69_0
              clear hP69_0
              have hsd := hp7 i5n51.toInt.toNat (by omega)
              rw [← hp6] at hsd
              have htp : (jTj (fun q => (S q).toInt) n.toInt.toNat (fun q => (SB q).toInt)) g6n51.toInt.toNat = y69.toInt := (by unfold jTj; rw [if_neg (by omega)]; (show (SB _).toInt = _); rw [show g6n51.toInt.toNat - n.toInt.toNat = i5n51.toInt.toNat by omega]; exact (hz69.eq).symm)
              have hbx := hjv.b g6n51.toInt.toNat (Nat.le_refl _)
              have hcc : jav g.toInt (jTj (fun q => (S q).toInt) n.toInt.toNat (fun q => (SB q).toInt)) (g6n51.toInt.toNat + 1) := hp13.mono (by omega)
              refine Jw_callV1 (q9 := (RX3, TX3, 7)) moX3_lay jw_ml_X6_72 jw_im_X3_lay jw_se_X3_lay hb_tr rfl rfl dX6_join_72 (w_X3_lay_yes (d - 1) _ tr y69 MT g g6n51 sT xxT yyT zzT F6n51 F34n51 F35n51 F36n51 (by omega) hW  hb_tr ⟨_, hOgs51tr, hFgs51tr_0⟩ ⟨_, hOgs51tr, hFgs51tr_5⟩ ⟨_, hOgs51tr, hFgs51tr_6⟩ ⟨_, hOgs51tr, hFgs51tr_1⟩ ⟨_, hOgs51tr, hFgs51tr_2⟩ ⟨_, hOgs51tr, hFgs51tr_3⟩ ⟨_, hOgs51tr, hFgs51tr_4⟩ hAF6n51 hAF34n51 hAF35n51 hAF36n51 (by omega) (by omega) (by omega) (by omega) (by omega) (by first | omega | (simp only [hz69.eq]; omega)) (by first | omega | (simp only [hz69.eq]; omega)) (by omega) (by omega) (by omega) (by omega) (by omega) (by omega) (by omega) (fun j hj q => (jav_succ.mp hcc).2 j (by omega) ((hjv.next (by omega)).mpr (by rw [htp]; exact q)))) (by omega) (Nat.zero_le _) (Nat.zero_le _) (Nat.le_of_ble_eq_true rfl) (fun r72 V72 h72 => ?_)
              obtain ⟨h72, hX72_0, hX72_1, hX72_2, hX72_3, hX72_4, ⟨fv72_0, hfv72_0, hfp72_0⟩, ⟨fv72_1, hfv72_1, hfp72_1⟩, ⟨fv72_2, hfv72_2, hfp72_2⟩⟩ := h72
              obtain ⟨hW, hx72, hr72⟩ := h72
              have he := he.trans (hx72.sub (jsub_of rfl))
              have hfp := hfp.trans (hX72_4.sub (fun b hb => by simp only [List.mem_cons, List.not_mem_nil, or_false] at hb ⊢; first | (rcases hb with h9 | h9 | h9 | h9 | h9 <;> simp only [h9, true_or, or_true]) | omega))
              have ha0 := ha0.mono hx72.1
              have hb_md := hb_md.mono hx72.1
              have hb_tr := hb_tr.mono hx72.1
              have hb_ro := hb_ro.mono hx72.1
              have hb_s := hb_s.mono hx72.1
              have hb_xx := hb_xx.mono hx72.1
              have hb_yy := hb_yy.mono hx72.1
              have hb_zz := hb_zz.mono hx72.1
              have hb_rb := hb_rb.mono hx72.1
              have hb_sB := hb_sB.mono hx72.1
              have hb_xxB := hb_xxB.mono hx72.1
              have hb_yyB := hb_yyB.mono hx72.1
              have hb_zzB := hb_zzB.mono hx72.1
              have hb_sT := hb_sT.mono hx72.1
              have hb_xxT := hb_xxT.mono hx72.1
              have hb_yyT := hb_yyT.mono hx72.1
              have hb_zzT := hb_zzT.mono hx72.1
              have hO_a0 := hx72.2 _ _ hO_a0 (jnot_of rfl)
              have hK_a0 := hK_a0.mono hx72.1
              have hO_ro := (hX72_4 ro (hAB ro List.mem_cons_self)).trans hO_ro
              have hK_ro := hK_ro.mono hx72.1
              have hO_rb := (hX72_4 rb (hCB rb List.mem_cons_self)).trans hO_rb
              have hK_rb := hK_rb.mono hx72.1
              obtain ⟨fs72tr, hOfs72tr, hRfs72tr⟩ := hx72.1.keep hOgs51tr
              have hKfs72tr : jokO _ (jFs 1) fs72tr := hW _ _ id hOfs72tr
              have hFfs72tr_1 := hRfs72tr _ _ hFgs51tr_1
              have hFfs72tr_2 := hRfs72tr _ _ hFgs51tr_2
              have hFfs72tr_3 := hRfs72tr _ _ hFgs51tr_3
              have hFfs72tr_4 := hRfs72tr _ _ hFgs51tr_4
              have ha_S := (hX72_4 s (hAB s (List.mem_cons_of_mem _ List.mem_cons_self))).trans ha_S
              have ha_X := (hX72_4 xx (hAB xx (List.mem_cons_of_mem _ (List.mem_cons_of_mem _ List.mem_cons_self)))).trans ha_X
              have ha_Y := (hX72_4 yy (hAB yy (List.mem_cons_of_mem _ (List.mem_cons_of_mem _ (List.mem_cons_of_mem _ List.mem_cons_self))))).trans ha_Y
              have ha_Z := (hX72_4 zz (hAB zz (List.mem_cons_of_mem _ (List.mem_cons_of_mem _ (List.mem_cons_of_mem _ (List.mem_cons_of_mem _ List.mem_cons_self)))))).trans ha_Z
              have ha_SB := (hX72_4 sB (hCB sB (List.mem_cons_of_mem _ List.mem_cons_self))).trans ha_SB
              have ha_XB := (hX72_4 xxB (hCB xxB (List.mem_cons_of_mem _ (List.mem_cons_of_mem _ List.mem_cons_self)))).trans ha_XB
              have ha_YB := (hX72_4 yyB (hCB yyB (List.mem_cons_of_mem _ (List.mem_cons_of_mem _ (List.mem_cons_of_mem _ List.mem_cons_self))))).trans ha_YB
              have ha_ZB := (hX72_4 zzB (hCB zzB (List.mem_cons_of_mem _ (List.mem_cons_of_mem _ (List.mem_cons_of_mem _ (List.mem_cons_of_mem _ List.mem_cons_self)))))).trans ha_ZB
              obtain ⟨y72, rfl, hl72, hh72, hP72_0⟩ := hr72
              try simp only [hz69.eq] at hP72_0
              have hFv72_0 := hfv72_0.get hOfs72tr
              try simp only [hz69.eq] at hfp72_0
              have hzf72_0 : jEq fv72_0.toInt ((g6n51.toInt) + 1) := hfp72_0
              clear hfp72_0
              have hFv72_1 := hfv72_1.get hOfs72tr
              try simp only [hz69.eq] at hfp72_1
              have hsb72_1 : MT = fv72_1 := (jI_inj.mp hfp72_1).symm
              subst hsb72_1
              have hFv72_2 := hfv72_2.get hOfs72tr
              try simp only [hz69.eq] at hfp72_2
              have hsb72_2 : g = fv72_2 := (jI_inj.mp hfp72_2).symm
              subst hsb72_2
              obtain ⟨S72, hS72, hSn72, hSo72⟩ := hX72_0
              obtain ⟨X72, hXa72, hXn72, hXo72⟩ := hX72_1
              obtain ⟨Y72, hYa72, hYn72, hYo72⟩ := hX72_2
              obtain ⟨Z72, hZa72, hZn72, hZo72⟩ := hX72_3
              obtain ⟨hN_S72, hv_S72⟩ := WT_rngI (r := ((-2147483648), 2147483647)) hW id rfl hS72
              clear hN_S72
              obtain ⟨hN_X72, hv_X72⟩ := WT_rngI (r := ((-2147483648), 2147483647)) hW id rfl hXa72
              clear hN_X72
              obtain ⟨hN_Y72, hv_Y72⟩ := WT_rngI (r := ((-2147483648), 2147483647)) hW id rfl hYa72
              clear hN_Y72
              obtain ⟨hN_Z72, hv_Z72⟩ := WT_rngI (r := ((-2147483648), 2147483647)) hW id rfl hZa72
              clear hN_Z72
              refine Jz_if_ne (tgt := 81) jEq.rf dX6_join_75 (by decide) (fun c75 => ?_) (fun c75 => ?_)
              · refine Jz_iinc 1 dX6_join_81 rfl rfl (by decide) jEq.rf (by decide) (by omega) (by omega) (fun y81 he81 => ?_)
                refine J_goto (tgt := 51) dX6_join_84 (by decide) ?_
                refine J.mask [true, true, true, true, true, true] ?_
                exact ih51 _ y81 fs72tr fv72_0 S72 X72 Y72 Z72 hW he ha0 hb_md hb_tr hb_ro hb_s hb_xx hb_yy hb_zz hb_rb hb_sB hb_xxB hb_yyB hb_zzB hb_sT hb_xxT hb_yyT hb_zzT hfp hO_a0 hK_a0 hO_ro hK_ro hO_rb hK_rb hOfs72tr hFfs72tr_1 hFfs72tr_2 hFfs72tr_3 hFfs72tr_4 hFv72_1 hFv72_2 hFv72_0 hS72 hXa72 hYa72 hZa72 ha_S ha_X ha_Y ha_Z ha_SB ha_XB ha_YB ha_ZB (by (try simp only [he81.eq, hzf72_0.eq, true_and, and_true]) <;> omega) (by (try simp only [he81.eq, hzf72_0.eq, true_and, and_true]) <;> omega) (fun j hj => by rw [hzf72_0.eq] at hj; by_cases c : (j : Int) = g6n51.toInt; (have e : j = g6n51.toInt.toNat := by omega); subst e; rw [hSn72, htp]; rw [hSo72 j (by omega)]; exact hts j (by omega)) (by rw [hzf72_0.eq, show (g6n51.toInt + 1).toNat = g6n51.toInt.toNat + 1 by omega]; exact hjv.lay (by rw [hXn72, htp]) (by rw [hYn72, htp]) (by rw [hZn72, htp]) hXo72 hYo72 hZo72) (by rw [hzf72_0.eq, show (g6n51.toInt + 1).toNat = g6n51.toInt.toNat + 1 by omega]; exact hcc) (by (try simp only [he81.eq, hzf72_0.eq, true_and, and_true]) <;> omega)
              · exact False.elim (by omega)
        refine J.mask [true, true, true, true, true, true] ?_
        exact L51 _ _ y48 fs45tr n S45 X45 Y45 Z45 hW he ha0 hb_md hb_tr hb_ro hb_s hb_xx hb_yy hb_zz hb_rb hb_sB hb_xxB hb_yyB hb_zzB hb_sT hb_xxT hb_yyT hb_zzT hfp hO_a0 hK_a0 hO_ro hK_ro hO_rb hK_rb hOfs45tr hFfs45tr_1 hFfs45tr_2 hFfs45tr_3 hFfs45tr_4 hFv45_0 hFv45_1 hFv45_2 hS45 hXa45 hYa45 hZa45 ha_S ha_X ha_Y ha_Z ha_SB ha_XB ha_YB ha_ZB (by (try simp only [he48.eq, true_and, and_true]) <;> omega) (by (try simp only [he48.eq, true_and, and_true]) <;> omega) (fun j hj => by rw [hSe45 j hj]; unfold jTj; rw [if_pos (by omega)]) (by intro i hi; rw [hXe45 i (by omega), hYe45 i (by omega), hZe45 i (by omega)]; exact (hp11.congr (fun q hq => by unfold jTj; rw [if_pos hq])) i hi) (hp12.congr (fun q hq => by unfold jTj; rw [if_pos hq])) (Nat.lt_succ_self _)
      · exact False.elim (by omega)
set_option maxRecDepth 100000 in
set_option maxHeartbeats 8000000 in
theorem w_X6_turnBack_out {tS : jTS} (d : Nat) (V0 : jH) (a0 : Nat) (x1 : Int32) (k : Int32) (md : Nat) (hd : 4 ≤ d) (hW : WT V0) (ha0 : jis V0 (.inr 4) a0) (hf_k : jfI V0 a0 4 1 k) (hr_md : jfR V0 a0 4 0 md) (hp0 : ¬ (0 ≤ x1.toInt ∧ x1.toInt < k.toInt)) : jTot tS mX6_turnBack d [.ref a0, .int x1] V0 0 0 (fun r V => (fun r _ => ∃ y : Int32, r = some (.int y) ∧ ((-2147483648) ≤ y.toInt) ∧ (y.toInt ≤ 2147483647) ∧ (y.toInt = -2)) r V ∧ V = V0) := by
  refine jTot.of_J [some (.ref a0), some (.int x1), none, none] moX6_turnBack (Nat.le_of_ble_eq_true rfl) rfl ?_
  have hrx1 := j_rng x1
  have he : jeff [] V0 V0 := jeff.refl _ _
  obtain ⟨fs_a0, hO_a0, hK_a0⟩ := WT_obj hW id ha0
  have hF_k := hf_k.get hO_a0
  have hrk : 0 ≤ k.toInt ∧ k.toInt ≤ 16 := jok_rngI hK_a0 rfl hF_k
  have hF_md := hr_md.get hO_a0
  obtain ⟨w_md, hFq_md, b_md, hbq_md, hb_md⟩ := hK_a0.2 0 (.inr (some (.inl 4))) rfl
  cases hF_md.symm.trans (hFq_md.trans (congrArg some hbq_md))
  refine J_aload_n dX6_turnBack_0 rfl ?_
  refine J_iload_n dX6_turnBack_1 rfl ?_
  refine Jw_callV1 (q9 := (RX6, TX6, 7)) moX6_rowOf jw_ml_X6_55 jw_im_X6_rowOf jw_se_X6_rowOf ha0 rfl rfl dX6_turnBack_2 (w_X6_rowOf_out (d - 1) _ a0 x1 hO_a0 hF_k (by omega)) (by omega) (Nat.zero_le _) (Nat.zero_le _) (Nat.le_of_ble_eq_true rfl) (fun r2 V2 h2 => ?_)
  obtain ⟨rfl, hE2⟩ := h2
  have hE2 := hE2.symm
  subst hE2
  · refine J_astore_nN dX6_turnBack_5 rfl (by decide) ?_
    refine J_aload_nN dX6_turnBack_6 rfl ?_
    refine J_ifnonnullN dX6_turnBack_7 ?_
    refine Jz_bipush (-2) dX6_turnBack_10 (by decide) (fun y10 he10 => ?_)
    exact J_ret (r := some (.int _)) dX6_turnBack_12 ⟨rfl, _, rfl, rfl⟩ (⟨⟨_, rfl, (j_rng _).1, (j_rng _).2, (by (try simp only [he10.eq, true_and, and_true]) <;> omega)⟩, rfl⟩)
set_option maxRecDepth 100000 in
set_option maxHeartbeats 8000000 in
theorem w_X6_turnBack_odd {tS : jTS} (d : Nat) (V0 : jH) (a0 : Nat) (x1 : Int32) (k : Int32) (md : Nat) (f : Nat → Option Nat) (ro : Nat) (M : Int32) (g : Int32) (n : Int32) (s : Nat) (xx : Nat) (yy : Nat) (zz : Nat) (S : Nat → Int32) (X : Nat → Int32) (Y : Nat → Int32) (Z : Nat → Int32) (hd : 4 ≤ d) (hW : WT V0) (ha0 : jis V0 (.inr 4) a0) (hf_k : jfI V0 a0 4 1 k) (hr_md : jfR V0 a0 4 0 md) (ha_f : V0 md = some (.inl (4, 16, .inr (.inr (.inr (.inr f)))))) (hf_M : jfI V0 ro 1 0 M) (hf_g : jfI V0 ro 1 5 g) (hf_n : jfI V0 ro 1 6 n) (hr_s : jfR V0 ro 1 1 s) (hr_xx : jfR V0 ro 1 2 xx) (hr_yy : jfR V0 ro 1 3 yy) (hr_zz : jfR V0 ro 1 4 zz) (ha_S : V0 s = some (.inl (6, 60, .inl S))) (ha_X : V0 xx = some (.inl (34, 61, .inl X))) (ha_Y : V0 yy = some (.inl (35, 61, .inl Y))) (ha_Z : V0 zz = some (.inl (36, 61, .inl Z))) (hm_ro : M.toInt = 60) (hn_ro : n.toInt ≤ 60) (hfo : f x1.toInt.toNat = some ro) (hp0 : 0 ≤ x1.toInt) (hp1 : x1.toInt < k.toInt) (hp2 : 0 ≤ g.toInt) (hp3 : g.toInt ≤ 3) (hp4 : jrv g.toInt (fun q => (S q).toInt) n.toInt.toNat X Y Z) (hp5 : g.toInt = 2) (hp6 : ¬ ((jPt g.toInt (fun q => (S q).toInt) n.toInt.toNat).1 + (jPt g.toInt (fun q => (S q).toInt) n.toInt.toNat).2.1) % 2 = 0) : jTot tS mX6_turnBack d [.ref a0, .int x1] V0 0 0 (fun r V => (fun r _ => ∃ y : Int32, r = some (.int y) ∧ ((-2147483648) ≤ y.toInt) ∧ (y.toInt ≤ 2147483647) ∧ (y.toInt = -3)) r V ∧ V = V0) := by
  refine jTot.of_J [some (.ref a0), some (.int x1), none, none] moX6_turnBack (Nat.le_of_ble_eq_true rfl) rfl ?_
  have hrx1 := j_rng x1
  have he : jeff [] V0 V0 := jeff.refl _ _
  obtain ⟨fs_a0, hO_a0, hK_a0⟩ := WT_obj hW id ha0
  have hF_k := hf_k.get hO_a0
  have hrk : 0 ≤ k.toInt ∧ k.toInt ≤ 16 := jok_rngI hK_a0 rfl hF_k
  have hF_md := hr_md.get hO_a0
  obtain ⟨w_md, hFq_md, b_md, hbq_md, hb_md⟩ := hK_a0.2 0 (.inr (some (.inl 4))) rfl
  cases hF_md.symm.trans (hFq_md.trans (congrArg some hbq_md))
  have hb_ro : jis V0 (.inr 1) ro := by obtain ⟨q1, q2, q3⟩ := hf_M; exact ⟨_, q2, rfl⟩
  obtain ⟨fs_ro, hO_ro, hK_ro⟩ := WT_obj hW id hb_ro
  have hF_M := hf_M.get hO_ro
  have hrM : 0 ≤ M.toInt ∧ M.toInt ≤ 120 := jok_rngI hK_ro rfl hF_M
  have hF_g := hf_g.get hO_ro
  have hrg : (-2147483648) ≤ g.toInt ∧ g.toInt ≤ 2147483647 := jok_rngI hK_ro rfl hF_g
  have hF_n := hf_n.get hO_ro
  have hrn : 0 ≤ n.toInt ∧ n.toInt ≤ 120 := jok_rngI hK_ro rfl hF_n
  have hF_s := hr_s.get hO_ro
  have hb_s : jis V0 (.inl 6) s := ⟨_, ha_S, rfl⟩
  obtain ⟨hN_S, hv_S⟩ := WT_rngI (r := (-2147483648, 2147483647)) hW id rfl ha_S
  clear hN_S
  have hF_xx := hr_xx.get hO_ro
  have hb_xx : jis V0 (.inl 34) xx := ⟨_, ha_X, rfl⟩
  obtain ⟨hN_X, hv_X⟩ := WT_rngI (r := (-2147483648, 2147483647)) hW id rfl ha_X
  clear hN_X
  have hF_yy := hr_yy.get hO_ro
  have hb_yy : jis V0 (.inl 35) yy := ⟨_, ha_Y, rfl⟩
  obtain ⟨hN_Y, hv_Y⟩ := WT_rngI (r := (-2147483648, 2147483647)) hW id rfl ha_Y
  clear hN_Y
  have hF_zz := hr_zz.get hO_ro
  have hb_zz : jis V0 (.inl 36) zz := ⟨_, ha_Z, rfl⟩
  obtain ⟨hN_Z, hv_Z⟩ := WT_rngI (r := (-2147483648, 2147483647)) hW id rfl ha_Z
  clear hN_Z
  refine J_aload_n dX6_turnBack_0 rfl ?_
  refine J_iload_n dX6_turnBack_1 rfl ?_
  have hbx := hp4.b n.toInt.toNat (Nat.le_refl _)
  have hpq := hp4 n.toInt.toNat (Nat.le_refl _)
  refine Jw_callV1 (q9 := (RX6, TX6, 7)) moX6_rowOf jw_ml_X6_55 jw_im_X6_rowOf jw_se_X6_rowOf ha0 rfl rfl dX6_turnBack_2 (w_X6_rowOf_in (d - 1) _ a0 x1 hO_a0 hF_md hF_k ha_f (by omega) (by omega) (by omega) hfo) (by omega) (Nat.zero_le _) (Nat.zero_le _) (Nat.le_of_ble_eq_true rfl) (fun r2 V2 h2 => ?_)
  obtain ⟨rfl, hE2⟩ := h2
  have hE2 := hE2.symm
  subst hE2
  · refine J_astore_n dX6_turnBack_5 rfl (by decide) ?_
    refine J_aload_n dX6_turnBack_6 rfl ?_
    refine J_ifnonnull (tgt := 13) dX6_turnBack_7 (by decide) ?_
    refine J_aload_n dX6_turnBack_13 rfl ?_
    refine J_get jf_X6_59 dX6_turnBack_14 hO_ro hF_g ?_
    refine Jz_iconst 2 dX6_turnBack_17 (by decide) (fun y17 he17 => ?_)
    refine Jz_icmp_ne (tgt := 38) jEq.rf he17 dX6_turnBack_18 (by decide) (fun c18 => ?_) (fun c18 => ?_)
    · exact False.elim (by omega)
    · refine J_aload_n dX6_turnBack_21 rfl ?_
      refine Jw_callV0 (q9 := (RX3, TX3, 7)) moX3_endX jw_ml_X6_93 jw_im_X3_endX jw_se_X3_endX hb_ro rfl rfl dX6_turnBack_22 (w_X3_endX_z (d - 1) _ ro M g n s xx yy zz S X Y Z (by omega) hW  hb_ro ⟨_, hO_ro, hF_M⟩ ⟨_, hO_ro, hF_g⟩ ⟨_, hO_ro, hF_n⟩ ⟨_, hO_ro, hF_s⟩ ⟨_, hO_ro, hF_xx⟩ ⟨_, hO_ro, hF_yy⟩ ⟨_, hO_ro, hF_zz⟩ ha_S ha_X ha_Y ha_Z (by omega) (by omega) (by omega)) (by omega) (Nat.zero_le _) (Nat.zero_le _) (Nat.le_of_ble_eq_true rfl) (fun r22 V22 h22 => ?_)
      obtain ⟨⟨y22, rfl, hl22, hh22, hP22_0⟩, hE22⟩ := h22
      have hE22 := hE22.symm
      subst hE22
      clear hl22 hh22
      have hz22 : jEq y22.toInt ((X (n.toInt).toNat).toInt) := hP22_0
      clear hP22_0
      refine J_aload_n dX6_turnBack_25 rfl ?_
      refine Jw_callV0 (q9 := (RX3, TX3, 7)) moX3_endY jw_ml_X6_97 jw_im_X3_endY jw_se_X3_endY hb_ro rfl rfl dX6_turnBack_26 (w_X3_endY_z (d - 1) _ ro M g n s xx yy zz S X Y Z (by omega) hW  hb_ro ⟨_, hO_ro, hF_M⟩ ⟨_, hO_ro, hF_g⟩ ⟨_, hO_ro, hF_n⟩ ⟨_, hO_ro, hF_s⟩ ⟨_, hO_ro, hF_xx⟩ ⟨_, hO_ro, hF_yy⟩ ⟨_, hO_ro, hF_zz⟩ ha_S ha_X ha_Y ha_Z (by omega) (by omega) (by omega)) (by omega) (Nat.zero_le _) (Nat.zero_le _) (Nat.le_of_ble_eq_true rfl) (fun r26 V26 h26 => ?_)
      obtain ⟨⟨y26, rfl, hl26, hh26, hP26_0⟩, hE26⟩ := h26
      have hE26 := hE26.symm
      subst hE26
      clear hl26 hh26
      have hz26 : jEq y26.toInt ((Y (n.toInt).toNat).toInt) := hP26_0
      clear hP26_0
      refine J_callS2 moX0_isEven jw_ml_X6_100 jw_st_X0_isEven dX6_turnBack_29 (w_X0_isEven_z (d - 1) _ y22 y26 (by omega)   (by (try simp only [hz22.eq, true_and, and_true]) <;> omega) (by (try simp only [hz22.eq, true_and, and_true]) <;> omega) (by (try simp only [hz26.eq, true_and, and_true]) <;> omega) (by (try simp only [hz26.eq, true_and, and_true]) <;> omega)) (by omega) (Nat.zero_le _) (Nat.zero_le _) (Nat.le_of_ble_eq_true rfl) (fun r29 V29 h29 => ?_)
      obtain ⟨⟨y29, rfl, hl29, hh29, hP29_0⟩, hE29⟩ := h29
      have hE29 := hE29.symm
      subst hE29
      try simp only [hz22.eq, hz26.eq] at hP29_0
      refine Jz_if_ne (tgt := 38) jEq.rf dX6_turnBack_32 (by decide) (fun c32 => ?_) (fun c32 => ?_)
      · exact False.elim (by omega)
      · refine Jz_bipush (-3) dX6_turnBack_35 (by decide) (fun y35 he35 => ?_)
        exact J_ret (r := some (.int _)) dX6_turnBack_37 ⟨rfl, _, rfl, rfl⟩ (⟨⟨_, rfl, (j_rng _).1, (j_rng _).2, (by (try simp only [he35.eq, true_and, and_true]) <;> omega)⟩, rfl⟩)
set_option maxRecDepth 100000 in
set_option maxHeartbeats 8000000 in
theorem w_X6_turnBack_ok {tS : jTS} (d : Nat) (V0 : jH) (a0 : Nat) (x1 : Int32) (k : Int32) (md : Nat) (tr : Nat) (f : Nat → Option Nat) (ro : Nat) (M : Int32) (g : Int32) (n : Int32) (s : Nat) (xx : Nat) (yy : Nat) (zz : Nat) (S : Nat → Int32) (X : Nat → Int32) (Y : Nat → Int32) (Z : Nat → Int32) (MT : Int32) (gT : Int32) (nT : Int32) (sT : Nat) (xxT : Nat) (yyT : Nat) (zzT : Nat) (ST : Nat → Int32) (XT : Nat → Int32) (YT : Nat → Int32) (ZT : Nat → Int32) (hd : 4 ≤ d) (hW : WT V0) (ha0 : jis V0 (.inr 4) a0) (hf_k : jfI V0 a0 4 1 k) (hr_md : jfR V0 a0 4 0 md) (hr_tr : jfR V0 a0 4 2 tr) (ha_f : V0 md = some (.inl (4, 16, .inr (.inr (.inr (.inr f)))))) (hf_M : jfI V0 ro 1 0 M) (hf_g : jfI V0 ro 1 5 g) (hf_n : jfI V0 ro 1 6 n) (hr_s : jfR V0 ro 1 1 s) (hr_xx : jfR V0 ro 1 2 xx) (hr_yy : jfR V0 ro 1 3 yy) (hr_zz : jfR V0 ro 1 4 zz) (ha_S : V0 s = some (.inl (6, 60, .inl S))) (ha_X : V0 xx = some (.inl (34, 61, .inl X))) (ha_Y : V0 yy = some (.inl (35, 61, .inl Y))) (ha_Z : V0 zz = some (.inl (36, 61, .inl Z))) (hm_ro : M.toInt = 60) (hn_ro : n.toInt ≤ 60) (hfo : f x1.toInt.toNat = some ro) (hf_MT : jfI V0 tr 1 0 MT) (hf_gT : jfI V0 tr 1 5 gT) (hf_nT : jfI V0 tr 1 6 nT) (hr_sT : jfR V0 tr 1 1 sT) (hr_xxT : jfR V0 tr 1 2 xxT) (hr_yyT : jfR V0 tr 1 3 yyT) (hr_zzT : jfR V0 tr 1 4 zzT) (ha_ST : V0 sT = some (.inl (6, 120, .inl ST))) (ha_XT : V0 xxT = some (.inl (34, 121, .inl XT))) (ha_YT : V0 yyT = some (.inl (35, 121, .inl YT))) (ha_ZT : V0 zzT = some (.inl (36, 121, .inl ZT))) (hm_tr : MT.toInt = 120) (hn_tr : nT.toInt ≤ 120) (hAB : ∀ b ∈ [ro, s, xx, yy, zz], b ∉ [tr, sT, xxT, yyT, zzT]) (hBA : ∀ b ∈ [tr, sT, xxT, yyT, zzT], b ∉ [ro, s, xx, yy, zz]) (hp0 : 0 ≤ x1.toInt) (hp1 : x1.toInt < k.toInt) (hp2 : 0 ≤ g.toInt) (hp3 : g.toInt ≤ 3) (hp4 : jrv g.toInt (fun q => (S q).toInt) n.toInt.toNat X Y Z) (hp5 : g.toInt = 2 → ((jPt g.toInt (fun q => (S q).toInt) n.toInt.toNat).1 + (jPt g.toInt (fun q => (S q).toInt) n.toInt.toNat).2.1) % 2 = 0) (hp6 : ∀ j : Nat, (j : Int) < n.toInt → 0 ≤ (S j).toInt ∧ (S j).toInt < jdir g.toInt) (hp7 : (XT 0).toInt = 0) (hp8 : (YT 0).toInt = 0) (hp9 : (ZT 0).toInt = 0) (hp10 : jav g.toInt (jTb g.toInt (fun q => (S q).toInt) n.toInt.toNat) n.toInt.toNat) : jTot tS mX6_turnBack d [.ref a0, .int x1] V0 0 0 (fun r V => (jPost [.inr 1, .inl 6, .inl 34, .inl 35, .inl 36] V0 (fun r _ => ∃ y : Int32, r = some (.int y) ∧ ((-2147483648) ≤ y.toInt) ∧ (y.toInt ≤ 2147483647) ∧ (y.toInt = n.toInt))) r V ∧ (∃ S2 X2 Y2 Z2 : Nat → Int32, jrw V ro s xx yy zz 60 g.toInt (n.toInt) S2 X2 Y2 Z2 ∧ (∀ j : Nat, (j : Int) < n.toInt → (S2 j).toInt = (jTb g.toInt (fun q => (S q).toInt) n.toInt.toNat) j) ∧ jrv g.toInt (jTb g.toInt (fun q => (S q).toInt) n.toInt.toNat) (n.toInt).toNat X2 Y2 Z2) ∧ (∃ (g2 n2 : Int) (S2 X2 Y2 Z2 : Nat → Int32), jrw V tr sT xxT yyT zzT 120 g2 n2 S2 X2 Y2 Z2 ∧ (X2 0).toInt = 0 ∧ (Y2 0).toInt = 0 ∧ (Z2 0).toInt = 0) ∧ jfp [ro, s, xx, yy, zz, tr, sT, xxT, yyT, zzT] V0 V) := by
  refine jTot.of_J [some (.ref a0), some (.int x1), none, none] moX6_turnBack (Nat.le_of_ble_eq_true rfl) rfl ?_
  have hrx1 := j_rng x1
  have he : jeff [.inr 1, .inl 6, .inl 34, .inl 35, .inl 36] V0 V0 := jeff.refl _ _
  have hfp : jfp [ro, s, xx, yy, zz, tr, sT, xxT, yyT, zzT] V0 V0 := jfp.rf
  obtain ⟨fs_a0, hO_a0, hK_a0⟩ := WT_obj hW id ha0
  have hF_k := hf_k.get hO_a0
  have hrk : 0 ≤ k.toInt ∧ k.toInt ≤ 16 := jok_rngI hK_a0 rfl hF_k
  have hF_md := hr_md.get hO_a0
  obtain ⟨w_md, hFq_md, b_md, hbq_md, hb_md⟩ := hK_a0.2 0 (.inr (some (.inl 4))) rfl
  cases hF_md.symm.trans (hFq_md.trans (congrArg some hbq_md))
  have hF_tr := hr_tr.get hO_a0
  obtain ⟨w_tr, hFq_tr, b_tr, hbq_tr, hb_tr⟩ := hK_a0.2 2 (.inr (some (.inr 1))) rfl
  cases hF_tr.symm.trans (hFq_tr.trans (congrArg some hbq_tr))
  have hb_ro : jis V0 (.inr 1) ro := by obtain ⟨q1, q2, q3⟩ := hf_M; exact ⟨_, q2, rfl⟩
  obtain ⟨fs_ro, hO_ro, hK_ro⟩ := WT_obj hW id hb_ro
  have hF_M := hf_M.get hO_ro
  have hrM : 0 ≤ M.toInt ∧ M.toInt ≤ 120 := jok_rngI hK_ro rfl hF_M
  have hF_g := hf_g.get hO_ro
  have hrg : (-2147483648) ≤ g.toInt ∧ g.toInt ≤ 2147483647 := jok_rngI hK_ro rfl hF_g
  have hF_n := hf_n.get hO_ro
  have hrn : 0 ≤ n.toInt ∧ n.toInt ≤ 120 := jok_rngI hK_ro rfl hF_n
  have hF_s := hr_s.get hO_ro
  have hb_s : jis V0 (.inl 6) s := ⟨_, ha_S, rfl⟩
  obtain ⟨hN_S, hv_S⟩ := WT_rngI (r := (-2147483648, 2147483647)) hW id rfl ha_S
  clear hN_S
  have hF_xx := hr_xx.get hO_ro
  have hb_xx : jis V0 (.inl 34) xx := ⟨_, ha_X, rfl⟩
  obtain ⟨hN_X, hv_X⟩ := WT_rngI (r := (-2147483648, 2147483647)) hW id rfl ha_X
  clear hN_X
  have hF_yy := hr_yy.get hO_ro
  have hb_yy : jis V0 (.inl 35) yy := ⟨_, ha_Y, rfl⟩
  obtain ⟨hN_Y, hv_Y⟩ := WT_rngI (r := (-2147483648, 2147483647)) hW id rfl ha_Y
  clear hN_Y
  have hF_zz := hr_zz.get hO_ro
  have hb_zz : jis V0 (.inl 36) zz := ⟨_, ha_Z, rfl⟩
  obtain ⟨hN_Z, hv_Z⟩ := WT_rngI (r := (-2147483648, 2147483647)) hW id rfl ha_Z
  clear hN_Z
  obtain ⟨fs_tr, hO_tr, hK_tr⟩ := WT_obj hW id hb_tr
  have hF_MT := hf_MT.get hO_tr
  have hrMT : 0 ≤ MT.toInt ∧ MT.toInt ≤ 120 := jok_rngI hK_tr rfl hF_MT
  have hF_gT := hf_gT.get hO_tr
  have hrgT : (-2147483648) ≤ gT.toInt ∧ gT.toInt ≤ 2147483647 := jok_rngI hK_tr rfl hF_gT
  have hF_nT := hf_nT.get hO_tr
  have hrnT : 0 ≤ nT.toInt ∧ nT.toInt ≤ 120 := jok_rngI hK_tr rfl hF_nT
  have hF_sT := hr_sT.get hO_tr
  have hb_sT : jis V0 (.inl 6) sT := ⟨_, ha_ST, rfl⟩
  obtain ⟨hN_ST, hv_ST⟩ := WT_rngI (r := (-2147483648, 2147483647)) hW id rfl ha_ST
  clear hN_ST
  have hF_xxT := hr_xxT.get hO_tr
  have hb_xxT : jis V0 (.inl 34) xxT := ⟨_, ha_XT, rfl⟩
  obtain ⟨hN_XT, hv_XT⟩ := WT_rngI (r := (-2147483648, 2147483647)) hW id rfl ha_XT
  clear hN_XT
  have hF_yyT := hr_yyT.get hO_tr
  have hb_yyT : jis V0 (.inl 35) yyT := ⟨_, ha_YT, rfl⟩
  obtain ⟨hN_YT, hv_YT⟩ := WT_rngI (r := (-2147483648, 2147483647)) hW id rfl ha_YT
  clear hN_YT
  have hF_zzT := hr_zzT.get hO_tr
  have hb_zzT : jis V0 (.inl 36) zzT := ⟨_, ha_ZT, rfl⟩
  obtain ⟨hN_ZT, hv_ZT⟩ := WT_rngI (r := (-2147483648, 2147483647)) hW id rfl ha_ZT
  clear hN_ZT
  refine J_aload_n dX6_turnBack_0 rfl ?_
  refine J_iload_n dX6_turnBack_1 rfl ?_
  have hbx := hp4.b n.toInt.toNat (Nat.le_refl _)
  have hpq := hp4 n.toInt.toNat (Nat.le_refl _)
  refine Jw_callV1 (q9 := (RX6, TX6, 7)) moX6_rowOf jw_ml_X6_55 jw_im_X6_rowOf jw_se_X6_rowOf ha0 rfl rfl dX6_turnBack_2 (w_X6_rowOf_in (d - 1) _ a0 x1 hO_a0 hF_md hF_k ha_f (by omega) (by omega) (by omega) hfo) (by omega) (Nat.zero_le _) (Nat.zero_le _) (Nat.le_of_ble_eq_true rfl) (fun r2 V2 h2 => ?_)
  obtain ⟨rfl, hE2⟩ := h2
  have hE2 := hE2.symm
  subst hE2
  · refine J_astore_n dX6_turnBack_5 rfl (by decide) ?_
    refine J_aload_n dX6_turnBack_6 rfl ?_
    refine J_ifnonnull (tgt := 13) dX6_turnBack_7 (by decide) ?_
    refine J_aload_n dX6_turnBack_13 rfl ?_
    refine J_get jf_X6_59 dX6_turnBack_14 hO_ro hF_g ?_
    refine Jz_iconst 2 dX6_turnBack_17 (by decide) (fun y17 he17 => ?_)
    refine Jz_icmp_ne (tgt := 38) jEq.rf he17 dX6_turnBack_18 (by decide) (fun c18 => ?_) (fun c18 => ?_)
    · refine J_aload_n dX6_turnBack_38 rfl ?_
      refine J_get jf_X6_22 dX6_turnBack_39 hO_a0 hF_tr ?_
      refine J_aload_n dX6_turnBack_42 rfl ?_
      refine J_get jf_X6_59 dX6_turnBack_43 hO_ro hF_g ?_
      have hz0 := hp7
      have hz1 := hp8
      have hz2 := hp9
      have hdc := jdir_cases g.toInt
      refine Jw_callV1 (q9 := (RX3, TX3, 7)) moX3_begin jw_ml_X6_52 jw_im_X3_begin jw_se_X3_begin hb_tr rfl rfl dX6_turnBack_46 (w_X3_begin_z (d - 1) _ tr g MT (by omega) hW  hb_tr ⟨_, hO_tr, hF_MT⟩) (by omega) (Nat.zero_le _) (Nat.zero_le _) (Nat.le_of_ble_eq_true rfl) (fun r46 V46 h46 => ?_)
      obtain ⟨h46, hX46_0, ⟨fv46_0, hfv46_0, hfp46_0⟩, ⟨fv46_1, hfv46_1, hfp46_1⟩, ⟨fv46_2, hfv46_2, hfp46_2⟩⟩ := h46
      obtain ⟨hW, hx46, hr46⟩ := h46
      have he := he.trans (hx46.sub (jsub_of rfl))
      have hfp := hfp.trans (hX46_0.sub (fun b hb => by simp only [List.mem_cons, List.not_mem_nil, or_false] at hb ⊢; first | (rcases hb with h9 <;> simp only [h9, true_or, or_true]) | omega))
      have ha0 := ha0.mono hx46.1
      have hb_md := hb_md.mono hx46.1
      have hb_tr := hb_tr.mono hx46.1
      have hb_ro := hb_ro.mono hx46.1
      have hb_s := hb_s.mono hx46.1
      have hb_xx := hb_xx.mono hx46.1
      have hb_yy := hb_yy.mono hx46.1
      have hb_zz := hb_zz.mono hx46.1
      have hb_sT := hb_sT.mono hx46.1
      have hb_xxT := hb_xxT.mono hx46.1
      have hb_yyT := hb_yyT.mono hx46.1
      have hb_zzT := hb_zzT.mono hx46.1
      have hO_a0 := hx46.2 _ _ hO_a0 (jnot_of rfl)
      have hK_a0 := hK_a0.mono hx46.1
      have hO_ro := (hX46_0 ro (fun q => hAB ro List.mem_cons_self (List.mem_cons.mpr (Or.inl (List.mem_singleton.mp q))))).trans hO_ro
      have hK_ro := hK_ro.mono hx46.1
      obtain ⟨fs46tr, hOfs46tr, hRfs46tr⟩ := hx46.1.keep hO_tr
      have hKfs46tr : jokO _ (jFs 1) fs46tr := hW _ _ id hOfs46tr
      have hFfs46tr_1 := hRfs46tr _ _ hF_sT
      have hFfs46tr_2 := hRfs46tr _ _ hF_xxT
      have hFfs46tr_3 := hRfs46tr _ _ hF_yyT
      have hFfs46tr_4 := hRfs46tr _ _ hF_zzT
      have ha_S := (hX46_0 s (fun q => hAB s (List.mem_cons_of_mem _ List.mem_cons_self) (List.mem_cons.mpr (Or.inl (List.mem_singleton.mp q))))).trans ha_S
      have ha_X := (hX46_0 xx (fun q => hAB xx (List.mem_cons_of_mem _ (List.mem_cons_of_mem _ List.mem_cons_self)) (List.mem_cons.mpr (Or.inl (List.mem_singleton.mp q))))).trans ha_X
      have ha_Y := (hX46_0 yy (fun q => hAB yy (List.mem_cons_of_mem _ (List.mem_cons_of_mem _ (List.mem_cons_of_mem _ List.mem_cons_self))) (List.mem_cons.mpr (Or.inl (List.mem_singleton.mp q))))).trans ha_Y
      have ha_Z := (hX46_0 zz (fun q => hAB zz (List.mem_cons_of_mem _ (List.mem_cons_of_mem _ (List.mem_cons_of_mem _ (List.mem_cons_of_mem _ List.mem_cons_self)))) (List.mem_cons.mpr (Or.inl (List.mem_singleton.mp q))))).trans ha_Z
      have ha_ST := hx46.2 _ _ ha_ST (jnot_of rfl)
      have ha_XT := hx46.2 _ _ ha_XT (jnot_of rfl)
      have ha_YT := hx46.2 _ _ ha_YT (jnot_of rfl)
      have ha_ZT := hx46.2 _ _ ha_ZT (jnot_of rfl)
      cases hr46
      have hFv46_0 := hfv46_0.get hOfs46tr
      have hsb46_0 : MT = fv46_0 := (jI_inj.mp hfp46_0).symm
      subst hsb46_0
      have hFv46_1 := hfv46_1.get hOfs46tr
      have hsb46_1 : g = fv46_1 := (jI_inj.mp hfp46_1).symm
      subst hsb46_1
      have hFv46_2 := hfv46_2.get hOfs46tr
      have hzf46_2 : jEq fv46_2.toInt (0) := hfp46_2
      clear hfp46_2
      refine J_aload_n dX6_turnBack_49 rfl ?_
      refine J_get jf_X6_69 dX6_turnBack_50 hO_ro hF_n ?_
      refine Jz_iconst 1 dX6_turnBack_53 (by decide) (fun y53 he53 => ?_)
      refine Jz_isub jEq.rf he53 dX6_turnBack_54 (by omega) (by omega) (fun y54 he54 => ?_)
      refine J_istore_n dX6_turnBack_55 rfl (by decide) ?_
      have L56 : ∀ (N : Nat) (V : jH) (i3n56 : Int32) (gs56tr : List Value) (g6n56 : Int32) (F6n56 : Nat → Int32) (F34n56 : Nat → Int32) (F35n56 : Nat → Int32) (F36n56 : Nat → Int32), WT V → jeff [.inr 1, .inl 6, .inl 34, .inl 35, .inl 36] V0 V → (jis V (.inr 4) a0) → (jis V (.inl 4) md) → (jis V (.inr 1) tr) → (jis V (.inr 1) ro) → (jis V (.inl 6) s) → (jis V (.inl 34) xx) → (jis V (.inl 35) yy) → (jis V (.inl 36) zz) → (jis V (.inl 6) sT) → (jis V (.inl 34) xxT) → (jis V (.inl 35) yyT) → (jis V (.inl 36) zzT) → (jfp [ro, s, xx, yy, zz, tr, sT, xxT, yyT, zzT] V0 V) → (V a0 = some (.inr (4, fs_a0))) → (jokO V (jFs 4) fs_a0) → (V ro = some (.inr (1, fs_ro))) → (jokO V (jFs 1) fs_ro) → (V tr = some (.inr (1, gs56tr))) → (gs56tr[1]? = some (.ref sT)) → (gs56tr[2]? = some (.ref xxT)) → (gs56tr[3]? = some (.ref yyT)) → (gs56tr[4]? = some (.ref zzT)) → (gs56tr[0]? = some (.int MT)) → (gs56tr[5]? = some (.int g)) → (gs56tr[6]? = some (.int g6n56)) → (V sT = some (.inl (6, 120, .inl F6n56))) → (V xxT = some (.inl (34, 121, .inl F34n56))) → (V yyT = some (.inl (35, 121, .inl F35n56))) → (V zzT = some (.inl (36, 121, .inl F36n56))) → (V s = some (.inl (6, 60, .inl S))) → (V xx = some (.inl (34, 61, .inl X))) → (V yy = some (.inl (35, 61, .inl Y))) → (V zz = some (.inl (36, 61, .inl Z))) → (-1 ≤ i3n56.toInt ∧ i3n56.toInt ≤ n.toInt - 1) → (g6n56.toInt = n.toInt - 1 - i3n56.toInt) → (∀ j : Nat, (j : Int) < g6n56.toInt → (F6n56 j).toInt = (jTb g.toInt (fun q => (S q).toInt) n.toInt.toNat) j) → (jrv g.toInt (jTb g.toInt (fun q => (S q).toInt) n.toInt.toNat) g6n56.toInt.toNat F34n56 F35n56 F36n56) → (jav g.toInt (jTb g.toInt (fun q => (S q).toInt) n.toInt.toNat) g6n56.toInt.toNat) → (i3n56.toInt + 2).toNat < N → J tS mX6_turnBack d 56 [some (.ref a0), some (.int x1), some (.ref ro), some (.int i3n56)] [] V 0 0 (fun r V => (jPost [.inr 1, .inl 6, .inl 34, .inl 35, .inl 36] V0 (fun r _ => ∃ y : Int32, r = some (.int y) ∧ ((-2147483648) ≤ y.toInt) ∧ (y.toInt ≤ 2147483647) ∧ (y.toInt = n.toInt))) r V ∧ (∃ S2 X2 Y2 Z2 : Nat → Int32, jrw V ro s xx yy zz 60 g.toInt (n.toInt) S2 X2 Y2 Z2 ∧ (∀ j : Nat, (j : Int) < n.toInt → (S2 j).toInt = (jTb g.toInt (fun q => (S q).toInt) n.toInt.toNat) j) ∧ jrv g.toInt (jTb g.toInt (fun q => (S q).toInt) n.toInt.toNat) (n.toInt).toNat X2 Y2 Z2) ∧ (∃ (g2 n2 : Int) (S2 X2 Y2 Z2 : Nat → Int32), jrw V tr sT xxT yyT zzT 120 g2 n2 S2 X2 Y2 Z2 ∧ (X2 0).toInt = 0 ∧ (Y2 0).toInt = 0 ∧ (Z2 0).toInt = 0) ∧ jfp [ro, s, xx, yy, zz, tr, sT, xxT, yyT, zzT] V0 V) := by
        intro N
        induction N with
        | zero => intro V i3n56 gs56tr g6n56 F6n56 F34n56 F35n56 F36n56 hW he ha0 hb_md hb_tr hb_ro hb_s hb_xx hb_yy hb_zz hb_sT hb_xxT hb_yyT hb_zzT hfp hO_a0 hK_a0 hO_ro hK_ro hOgs56tr hFgs56tr_1 hFgs56tr_2 hFgs56tr_3 hFgs56tr_4 hFgs56tr_0 hFgs56tr_5 hFgs56tr_6 hAF6n56 hAF34n56 hAF35n56 hAF36n56 ha_S ha_X ha_Y ha_Z hi htn hts hjv hav hm; exact absurd hm (Nat.not_lt_zero _)
        | succ N ih =>
          intro V i3n56 gs56tr g6n56 F6n56 F34n56 F35n56 F36n56 hW he ha0 hb_md hb_tr hb_ro hb_s hb_xx hb_yy hb_zz hb_sT hb_xxT hb_yyT hb_zzT hfp hO_a0 hK_a0 hO_ro hK_ro hOgs56tr hFgs56tr_1 hFgs56tr_2 hFgs56tr_3 hFgs56tr_4 hFgs56tr_0 hFgs56tr_5 hFgs56tr_6 hAF6n56 hAF34n56 hAF35n56 hAF36n56 ha_S ha_X ha_Y ha_Z hi htn hts hjv hav hm
          have ih56 := ih
          have hri3 := j_rng i3n56
          have hKgs56tr : jokO V (jFs 1) gs56tr := hW _ _ id hOgs56tr
          have hrgg6n56 : 0 ≤ g6n56.toInt ∧ g6n56.toInt ≤ 120 := jok_rngI hKgs56tr rfl hFgs56tr_6
          obtain ⟨hNF6n56, hvF6n56⟩ := WT_rngI (r := ((-2147483648), 2147483647)) hW id rfl hAF6n56
          clear hNF6n56
          obtain ⟨hNF34n56, hvF34n56⟩ := WT_rngI (r := ((-2147483648), 2147483647)) hW id rfl hAF34n56
          clear hNF34n56
          obtain ⟨hNF35n56, hvF35n56⟩ := WT_rngI (r := ((-2147483648), 2147483647)) hW id rfl hAF35n56
          clear hNF35n56
          obtain ⟨hNF36n56, hvF36n56⟩ := WT_rngI (r := ((-2147483648), 2147483647)) hW id rfl hAF36n56
          clear hNF36n56
          refine J_iload_n dX6_turnBack_56 rfl ?_
          refine Jz_if_lt (tgt := 91) jEq.rf dX6_turnBack_57 (by decide) (fun c57 => ?_) (fun c57 => ?_)
          · refine J_aload_n dX6_turnBack_91 rfl ?_
            refine J_aload_n dX6_turnBack_92 rfl ?_
            refine J_get jf_X6_22 dX6_turnBack_93 hO_a0 hF_tr ?_
            have hfin : g6n56.toInt = n.toInt := by omega
            refine Jw_callV1 (q9 := (RX3, TX3, 7)) moX3_become jw_ml_X6_89 jw_im_X3_become jw_se_X3_become hb_ro rfl rfl dX6_turnBack_96 (w_X3_become_z (d - 1) _ ro tr M g g6n56 s xx yy zz sT xxT yyT zzT S X Y Z F6n56 F34n56 F35n56 F36n56 (by omega) hW  hb_ro hb_tr ⟨_, hO_ro, hF_M⟩ ⟨_, hOgs56tr, hFgs56tr_5⟩ ⟨_, hOgs56tr, hFgs56tr_6⟩ ⟨_, hO_ro, hF_s⟩ ⟨_, hO_ro, hF_xx⟩ ⟨_, hO_ro, hF_yy⟩ ⟨_, hO_ro, hF_zz⟩ ⟨_, hOgs56tr, hFgs56tr_1⟩ ⟨_, hOgs56tr, hFgs56tr_2⟩ ⟨_, hOgs56tr, hFgs56tr_3⟩ ⟨_, hOgs56tr, hFgs56tr_4⟩ (fun e => hBA tr List.mem_cons_self (e ▸ List.mem_cons_self)) (fun e => hBA sT (List.mem_cons_of_mem _ List.mem_cons_self) (e ▸ (List.mem_cons_of_mem _ List.mem_cons_self))) (fun e => hBA xxT (List.mem_cons_of_mem _ (List.mem_cons_of_mem _ List.mem_cons_self)) (e ▸ (List.mem_cons_of_mem _ (List.mem_cons_of_mem _ List.mem_cons_self)))) (fun e => hBA yyT (List.mem_cons_of_mem _ (List.mem_cons_of_mem _ (List.mem_cons_of_mem _ List.mem_cons_self))) (e ▸ (List.mem_cons_of_mem _ (List.mem_cons_of_mem _ (List.mem_cons_of_mem _ List.mem_cons_self))))) (fun e => hBA zzT (List.mem_cons_of_mem _ (List.mem_cons_of_mem _ (List.mem_cons_of_mem _ (List.mem_cons_of_mem _ List.mem_cons_self)))) (e ▸ (List.mem_cons_of_mem _ (List.mem_cons_of_mem _ (List.mem_cons_of_mem _ (List.mem_cons_of_mem _ List.mem_cons_self)))))) ha_S ha_X ha_Y ha_Z hAF6n56 hAF34n56 hAF35n56 hAF36n56 (by omega) (by omega) (by omega) (by omega) (by omega)) (by omega) (Nat.zero_le _) (Nat.zero_le _) (Nat.le_of_ble_eq_true rfl) (fun r96 V96 h96 => ?_)
            obtain ⟨h96, hX96_0, hX96_1, hX96_2, hX96_3, hX96_4, ⟨fv96_0, hfv96_0, hfp96_0⟩, ⟨fv96_1, hfv96_1, hfp96_1⟩, ⟨fv96_2, hfv96_2, hfp96_2⟩⟩ := h96
            obtain ⟨hW, hx96, hr96⟩ := h96
            have he := he.trans (hx96.sub (jsub_of rfl))
            have hfp := hfp.trans (hX96_4.sub (fun b hb => by simp only [List.mem_cons, List.not_mem_nil, or_false] at hb ⊢; first | (rcases hb with h9 | h9 | h9 | h9 | h9 <;> simp only [h9, true_or, or_true]) | omega))
            have ha0 := ha0.mono hx96.1
            have hb_md := hb_md.mono hx96.1
            have hb_tr := hb_tr.mono hx96.1
            have hb_ro := hb_ro.mono hx96.1
            have hb_s := hb_s.mono hx96.1
            have hb_xx := hb_xx.mono hx96.1
            have hb_yy := hb_yy.mono hx96.1
            have hb_zz := hb_zz.mono hx96.1
            have hb_sT := hb_sT.mono hx96.1
            have hb_xxT := hb_xxT.mono hx96.1
            have hb_yyT := hb_yyT.mono hx96.1
            have hb_zzT := hb_zzT.mono hx96.1
            have hO_a0 := hx96.2 _ _ hO_a0 (jnot_of rfl)
            have hK_a0 := hK_a0.mono hx96.1
            obtain ⟨fs96ro, hOfs96ro, hRfs96ro⟩ := hx96.1.keep hO_ro
            have hKfs96ro : jokO _ (jFs 1) fs96ro := hW _ _ id hOfs96ro
            have hFfs96ro_1 := hRfs96ro _ _ hF_s
            have hFfs96ro_2 := hRfs96ro _ _ hF_xx
            have hFfs96ro_3 := hRfs96ro _ _ hF_yy
            have hFfs96ro_4 := hRfs96ro _ _ hF_zz
            have hOgs56tr := (hX96_4 tr (hBA tr List.mem_cons_self)).trans hOgs56tr
            have hKgs56tr := hKgs56tr.mono hx96.1
            have hAF6n56 := (hX96_4 sT (hBA sT (List.mem_cons_of_mem _ List.mem_cons_self))).trans hAF6n56
            have hAF34n56 := (hX96_4 xxT (hBA xxT (List.mem_cons_of_mem _ (List.mem_cons_of_mem _ List.mem_cons_self)))).trans hAF34n56
            have hAF35n56 := (hX96_4 yyT (hBA yyT (List.mem_cons_of_mem _ (List.mem_cons_of_mem _ (List.mem_cons_of_mem _ List.mem_cons_self))))).trans hAF35n56
            have hAF36n56 := (hX96_4 zzT (hBA zzT (List.mem_cons_of_mem _ (List.mem_cons_of_mem _ (List.mem_cons_of_mem _ (List.mem_cons_of_mem _ List.mem_cons_self)))))).trans hAF36n56
            cases hr96
            have hFv96_0 := hfv96_0.get hOfs96ro
            have hsb96_0 : M = fv96_0 := (jI_inj.mp hfp96_0).symm
            subst hsb96_0
            have hFv96_1 := hfv96_1.get hOfs96ro
            have hsb96_1 : g = fv96_1 := (jI_inj.mp hfp96_1).symm
            subst hsb96_1
            have hFv96_2 := hfv96_2.get hOfs96ro
            have hsb96_2 : g6n56 = fv96_2 := (jI_inj.mp hfp96_2).symm
            subst hsb96_2
            obtain ⟨S96, hS96, hSe96⟩ := hX96_0
            obtain ⟨X96, hXa96, hXe96⟩ := hX96_1
            obtain ⟨Y96, hYa96, hYe96⟩ := hX96_2
            obtain ⟨Z96, hZa96, hZe96⟩ := hX96_3
            obtain ⟨hN_S96, hv_S96⟩ := WT_rngI (r := ((-2147483648), 2147483647)) hW id rfl hS96
            clear hN_S96
            obtain ⟨hN_X96, hv_X96⟩ := WT_rngI (r := ((-2147483648), 2147483647)) hW id rfl hXa96
            clear hN_X96
            obtain ⟨hN_Y96, hv_Y96⟩ := WT_rngI (r := ((-2147483648), 2147483647)) hW id rfl hYa96
            clear hN_Y96
            obtain ⟨hN_Z96, hv_Z96⟩ := WT_rngI (r := ((-2147483648), 2147483647)) hW id rfl hZa96
            clear hN_Z96
            refine J_aload_n dX6_turnBack_99 rfl ?_
            refine J_get jf_X6_69 dX6_turnBack_100 hOfs96ro hFv96_2 ?_
            exact J_ret (r := some (.int _)) dX6_turnBack_103 ⟨rfl, _, rfl, rfl⟩ (⟨⟨hW, he, ⟨_, rfl, (j_rng _).1, (j_rng _).2, (by omega)⟩⟩, ⟨S96, X96, Y96, Z96, ⟨⟨_, ⟨_, hOfs96ro, hFv96_0⟩, hm_ro⟩, ⟨_, ⟨_, hOfs96ro, hFv96_1⟩, rfl⟩, ⟨_, ⟨_, hOfs96ro, hFv96_2⟩, hfin⟩, ⟨_, hOfs96ro, hFfs96ro_1⟩, ⟨_, hOfs96ro, hFfs96ro_2⟩, ⟨_, hOfs96ro, hFfs96ro_3⟩, ⟨_, hOfs96ro, hFfs96ro_4⟩, hS96, hXa96, hYa96, hZa96⟩, (fun j hj => by rw [hSe96 j (by omega)]; exact hts j (by omega)), (by intro i hi; rw [hXe96 i (by omega), hYe96 i (by omega), hZe96 i (by omega)]; exact hjv i (by omega))⟩, ⟨_, _, _, _, _, _, ⟨⟨_, ⟨_, hOgs56tr, hFgs56tr_0⟩, hm_tr⟩, ⟨_, ⟨_, hOgs56tr, hFgs56tr_5⟩, rfl⟩, ⟨_, ⟨_, hOgs56tr, hFgs56tr_6⟩, rfl⟩, ⟨_, hOgs56tr, hFgs56tr_1⟩, ⟨_, hOgs56tr, hFgs56tr_2⟩, ⟨_, hOgs56tr, hFgs56tr_3⟩, ⟨_, hOgs56tr, hFgs56tr_4⟩, hAF6n56, hAF34n56, hAF35n56, hAF36n56⟩, (hjv 0 (Nat.zero_le _))⟩, hfp⟩)
          · refine J_aload_n dX6_turnBack_60 rfl ?_
            refine J_get jf_X6_22 dX6_turnBack_61 hO_a0 hF_tr ?_
            refine J_aload_n dX6_turnBack_64 rfl ?_
            refine J_get jf_X6_59 dX6_turnBack_65 hO_ro hF_g ?_
            refine J_aload_n dX6_turnBack_68 rfl ?_
            refine J_iload_n dX6_turnBack_69 rfl ?_
            refine Jw_callV1 (q9 := (RX3, TX3, 7)) moX3_direction jw_ml_X6_81 jw_im_X3_direction jw_se_X3_direction hb_ro rfl rfl dX6_turnBack_70 (w_X3_direction_z (d - 1) _ ro i3n56 s S (by omega) hW  hb_ro ⟨_, hO_ro, hF_s⟩ ha_S (by omega) (by omega) (by omega)) (by omega) (Nat.zero_le _) (Nat.zero_le _) (Nat.le_of_ble_eq_true rfl) (fun r70 V70 h70 => ?_)
            obtain ⟨⟨y70, rfl, hl70, hh70, hP70_0⟩, hE70⟩ := h70
            have hE70 := hE70.symm
            subst hE70
            clear hl70 hh70
            have hz70 : jEq y70.toInt ((S (i3n56.toInt).toNat).toInt) := hP70_0
            clear hP70_0
            have hsd := hp6 i3n56.toInt.toNat (by omega)
            refine J_callS2 moX0_opposite jw_ml_X6_103 jw_st_X0_opposite dX6_turnBack_73 (w_X0_opposite_z (d - 1) _ g y70 (by omega)   (by omega) (by omega) (by (try simp only [hz70.eq, true_and, and_true]) <;> omega) (by (try simp only [hz70.eq, true_and, and_true]) <;> omega)) (by omega) (Nat.zero_le _) (Nat.zero_le _) (Nat.le_of_ble_eq_true rfl) (fun r73 V73 h73 => ?_)
            obtain ⟨⟨y73, rfl, hl73, hh73, hP73_0⟩, hE73⟩ := h73
            have hE73 := hE73.symm
            subst hE73
            clear hl73 hh73
            try simp only [hz70.eq] at hP73_0
            have hz73 : jEq y73.toInt (jopp (g.toInt) ((S (i3n56.toInt).toNat).toInt)) := hP73_0
            clear hP73_0
            have hob := jopp_b (g := g.toInt) (d := (S i3n56.toInt.toNat).toInt) (by omega) (by omega)
            have htp : (jTb g.toInt (fun q => (S q).toInt) n.toInt.toNat) g6n56.toInt.toNat = y73.toInt := (by unfold jTb; (show jopp _ (S _).toInt = _); rw [show n.toInt.toNat - 1 - g6n56.toInt.toNat = i3n56.toInt.toNat by omega]; exact (hz73.eq).symm)
            have hbx := hjv.b g6n56.toInt.toNat (Nat.le_refl _)
            have hcc : jav g.toInt (jTb g.toInt (fun q => (S q).toInt) n.toInt.toNat) (g6n56.toInt.toNat + 1) := hp10.mono (by omega)
            refine Jw_callV1 (q9 := (RX3, TX3, 7)) moX3_lay jw_ml_X6_72 jw_im_X3_lay jw_se_X3_lay hb_tr rfl rfl dX6_turnBack_76 (w_X3_lay_yes (d - 1) _ tr y73 MT g g6n56 sT xxT yyT zzT F6n56 F34n56 F35n56 F36n56 (by omega) hW  hb_tr ⟨_, hOgs56tr, hFgs56tr_0⟩ ⟨_, hOgs56tr, hFgs56tr_5⟩ ⟨_, hOgs56tr, hFgs56tr_6⟩ ⟨_, hOgs56tr, hFgs56tr_1⟩ ⟨_, hOgs56tr, hFgs56tr_2⟩ ⟨_, hOgs56tr, hFgs56tr_3⟩ ⟨_, hOgs56tr, hFgs56tr_4⟩ hAF6n56 hAF34n56 hAF35n56 hAF36n56 (by omega) (by omega) (by omega) (by omega) (by omega) (by first | omega | (simp only [hz73.eq]; omega)) (by first | omega | (simp only [hz73.eq]; omega)) (by omega) (by omega) (by omega) (by omega) (by omega) (by omega) (by omega) (fun j hj q => (jav_succ.mp hcc).2 j (by omega) ((hjv.next (by omega)).mpr (by rw [htp]; exact q)))) (by omega) (Nat.zero_le _) (Nat.zero_le _) (Nat.le_of_ble_eq_true rfl) (fun r76 V76 h76 => ?_)
            obtain ⟨h76, hX76_0, hX76_1, hX76_2, hX76_3, hX76_4, ⟨fv76_0, hfv76_0, hfp76_0⟩, ⟨fv76_1, hfv76_1, hfp76_1⟩, ⟨fv76_2, hfv76_2, hfp76_2⟩⟩ := h76
            obtain ⟨hW, hx76, hr76⟩ := h76
            have he := he.trans (hx76.sub (jsub_of rfl))
            have hfp := hfp.trans (hX76_4.sub (fun b hb => by simp only [List.mem_cons, List.not_mem_nil, or_false] at hb ⊢; first | (rcases hb with h9 | h9 | h9 | h9 | h9 <;> simp only [h9, true_or, or_true]) | omega))
            have ha0 := ha0.mono hx76.1
            have hb_md := hb_md.mono hx76.1
            have hb_tr := hb_tr.mono hx76.1
            have hb_ro := hb_ro.mono hx76.1
            have hb_s := hb_s.mono hx76.1
            have hb_xx := hb_xx.mono hx76.1
            have hb_yy := hb_yy.mono hx76.1
            have hb_zz := hb_zz.mono hx76.1
            have hb_sT := hb_sT.mono hx76.1
            have hb_xxT := hb_xxT.mono hx76.1
            have hb_yyT := hb_yyT.mono hx76.1
            have hb_zzT := hb_zzT.mono hx76.1
            have hO_a0 := hx76.2 _ _ hO_a0 (jnot_of rfl)
            have hK_a0 := hK_a0.mono hx76.1
            have hO_ro := (hX76_4 ro (hAB ro List.mem_cons_self)).trans hO_ro
            have hK_ro := hK_ro.mono hx76.1
            obtain ⟨fs76tr, hOfs76tr, hRfs76tr⟩ := hx76.1.keep hOgs56tr
            have hKfs76tr : jokO _ (jFs 1) fs76tr := hW _ _ id hOfs76tr
            have hFfs76tr_1 := hRfs76tr _ _ hFgs56tr_1
            have hFfs76tr_2 := hRfs76tr _ _ hFgs56tr_2
            have hFfs76tr_3 := hRfs76tr _ _ hFgs56tr_3
            have hFfs76tr_4 := hRfs76tr _ _ hFgs56tr_4
            have ha_S := (hX76_4 s (hAB s (List.mem_cons_of_mem _ List.mem_cons_self))).trans ha_S
            have ha_X := (hX76_4 xx (hAB xx (List.mem_cons_of_mem _ (List.mem_cons_of_mem _ List.mem_cons_self)))).trans ha_X
            have ha_Y := (hX76_4 yy (hAB yy (List.mem_cons_of_mem _ (List.mem_cons_of_mem _ (List.mem_cons_of_mem _ List.mem_cons_self))))).trans ha_Y
            have ha_Z := (hX76_4 zz (hAB zz (List.mem_cons_of_mem _ (List.mem_cons_of_mem _ (List.mem_cons_of_mem _ (List.mem_cons_of_mem _ List.mem_cons_self)))))).trans ha_Z
            obtain ⟨y76, rfl, hl76, hh76, hP76_0⟩ := hr76
            try simp only [hz73.eq] at hP76_0
            have hFv76_0 := hfv76_0.get hOfs76tr
            try simp only [hz73.eq] at hfp76_0
            have hzf76_0 : jEq fv76_0.toInt ((g6n56.toInt) + 1) := hfp76_0
            clear hfp76_0
            have hFv76_1 := hfv76_1.get hOfs76tr
            try simp only [hz73.eq] at hfp76_1
            have hsb76_1 : MT = fv76_1 := (jI_inj.mp hfp76_1).symm
            subst hsb76_1
            have hFv76_2 := hfv76_2.get hOfs76tr
            try simp only [hz73.eq] at hfp76_2
            have hsb76_2 : g = fv76_2 := (jI_inj.mp hfp76_2).symm
            subst hsb76_2
            obtain ⟨S76, hS76, hSn76, hSo76⟩ := hX76_0
            obtain ⟨X76, hXa76, hXn76, hXo76⟩ := hX76_1
            obtain ⟨Y76, hYa76, hYn76, hYo76⟩ := hX76_2
            obtain ⟨Z76, hZa76, hZn76, hZo76⟩ := hX76_3
            obtain ⟨hN_S76, hv_S76⟩ := WT_rngI (r := ((-2147483648), 2147483647)) hW id rfl hS76
            clear hN_S76
            obtain ⟨hN_X76, hv_X76⟩ := WT_rngI (r := ((-2147483648), 2147483647)) hW id rfl hXa76
            clear hN_X76
            obtain ⟨hN_Y76, hv_Y76⟩ := WT_rngI (r := ((-2147483648), 2147483647)) hW id rfl hYa76
            clear hN_Y76
            obtain ⟨hN_Z76, hv_Z76⟩ := WT_rngI (r := ((-2147483648), 2147483647)) hW id rfl hZa76
            clear hN_Z76
            refine Jz_if_ne (tgt := 85) jEq.rf dX6_turnBack_79 (by decide) (fun c79 => ?_) (fun c79 => ?_)
            · refine Jz_iinc (-1) dX6_turnBack_85 rfl rfl (by decide) jEq.rf (by decide) (by omega) (by omega) (fun y85 he85 => ?_)
              refine J_goto (tgt := 56) dX6_turnBack_88 (by decide) ?_
              refine J.mask [true, true, true, true] ?_
              exact ih56 _ y85 fs76tr fv76_0 S76 X76 Y76 Z76 hW he ha0 hb_md hb_tr hb_ro hb_s hb_xx hb_yy hb_zz hb_sT hb_xxT hb_yyT hb_zzT hfp hO_a0 hK_a0 hO_ro hK_ro hOfs76tr hFfs76tr_1 hFfs76tr_2 hFfs76tr_3 hFfs76tr_4 hFv76_1 hFv76_2 hFv76_0 hS76 hXa76 hYa76 hZa76 ha_S ha_X ha_Y ha_Z (by (try simp only [he85.eq, hzf76_0.eq, true_and, and_true]) <;> omega) (by (try simp only [he85.eq, hzf76_0.eq, true_and, and_true]) <;> omega) (fun j hj => by rw [hzf76_0.eq] at hj; by_cases c : (j : Int) = g6n56.toInt; (have e : j = g6n56.toInt.toNat := by omega); subst e; rw [hSn76, htp]; rw [hSo76 j (by omega)]; exact hts j (by omega)) (by rw [hzf76_0.eq, show (g6n56.toInt + 1).toNat = g6n56.toInt.toNat + 1 by omega]; exact hjv.lay (by rw [hXn76, htp]) (by rw [hYn76, htp]) (by rw [hZn76, htp]) hXo76 hYo76 hZo76) (by rw [hzf76_0.eq, show (g6n56.toInt + 1).toNat = g6n56.toInt.toNat + 1 by omega]; exact hcc) (by (try simp only [he85.eq, hzf76_0.eq, true_and, and_true]) <;> omega)
            · exact False.elim (by omega)
      refine J.mask [true, true, true, true] ?_
      exact L56 _ _ y54 fs46tr fv46_2 ST XT YT ZT hW he ha0 hb_md hb_tr hb_ro hb_s hb_xx hb_yy hb_zz hb_sT hb_xxT hb_yyT hb_zzT hfp hO_a0 hK_a0 hO_ro hK_ro hOfs46tr hFfs46tr_1 hFfs46tr_2 hFfs46tr_3 hFfs46tr_4 hFv46_0 hFv46_1 hFv46_2 ha_ST ha_XT ha_YT ha_ZT ha_S ha_X ha_Y ha_Z (by (try simp only [he54.eq, hzf46_2.eq, true_and, and_true]) <;> omega) (by (try simp only [he54.eq, hzf46_2.eq, true_and, and_true]) <;> omega) (fun j hj => by rw [hzf46_2.eq] at hj; omega) (by rw [hzf46_2.eq]; intro i hi; rw [show i = 0 by omega]; exact ⟨hz0, hz1, hz2⟩) (by rw [hzf46_2.eq]; exact jav.zero) (Nat.lt_succ_self _)
    · refine J_aload_n dX6_turnBack_21 rfl ?_
      refine Jw_callV0 (q9 := (RX3, TX3, 7)) moX3_endX jw_ml_X6_93 jw_im_X3_endX jw_se_X3_endX hb_ro rfl rfl dX6_turnBack_22 (w_X3_endX_z (d - 1) _ ro M g n s xx yy zz S X Y Z (by omega) hW  hb_ro ⟨_, hO_ro, hF_M⟩ ⟨_, hO_ro, hF_g⟩ ⟨_, hO_ro, hF_n⟩ ⟨_, hO_ro, hF_s⟩ ⟨_, hO_ro, hF_xx⟩ ⟨_, hO_ro, hF_yy⟩ ⟨_, hO_ro, hF_zz⟩ ha_S ha_X ha_Y ha_Z (by omega) (by omega) (by omega)) (by omega) (Nat.zero_le _) (Nat.zero_le _) (Nat.le_of_ble_eq_true rfl) (fun r22 V22 h22 => ?_)
      obtain ⟨⟨y22, rfl, hl22, hh22, hP22_0⟩, hE22⟩ := h22
      have hE22 := hE22.symm
      subst hE22
      clear hl22 hh22
      have hz22 : jEq y22.toInt ((X (n.toInt).toNat).toInt) := hP22_0
      clear hP22_0
      refine J_aload_n dX6_turnBack_25 rfl ?_
      refine Jw_callV0 (q9 := (RX3, TX3, 7)) moX3_endY jw_ml_X6_97 jw_im_X3_endY jw_se_X3_endY hb_ro rfl rfl dX6_turnBack_26 (w_X3_endY_z (d - 1) _ ro M g n s xx yy zz S X Y Z (by omega) hW  hb_ro ⟨_, hO_ro, hF_M⟩ ⟨_, hO_ro, hF_g⟩ ⟨_, hO_ro, hF_n⟩ ⟨_, hO_ro, hF_s⟩ ⟨_, hO_ro, hF_xx⟩ ⟨_, hO_ro, hF_yy⟩ ⟨_, hO_ro, hF_zz⟩ ha_S ha_X ha_Y ha_Z (by omega) (by omega) (by omega)) (by omega) (Nat.zero_le _) (Nat.zero_le _) (Nat.le_of_ble_eq_true rfl) (fun r26 V26 h26 => ?_)
      obtain ⟨⟨y26, rfl, hl26, hh26, hP26_0⟩, hE26⟩ := h26
      have hE26 := hE26.symm
      subst hE26
      clear hl26 hh26
      have hz26 : jEq y26.toInt ((Y (n.toInt).toNat).toInt) := hP26_0
      clear hP26_0
      refine J_callS2 moX0_isEven jw_ml_X6_100 jw_st_X0_isEven dX6_turnBack_29 (w_X0_isEven_z (d - 1) _ y22 y26 (by omega)   (by (try simp only [hz22.eq, true_and, and_true]) <;> omega) (by (try simp only [hz22.eq, true_and, and_true]) <;> omega) (by (try simp only [hz26.eq, true_and, and_true]) <;> omega) (by (try simp only [hz26.eq, true_and, and_true]) <;> omega)) (by omega) (Nat.zero_le _) (Nat.zero_le _) (Nat.le_of_ble_eq_true rfl) (fun r29 V29 h29 => ?_)
      obtain ⟨⟨y29, rfl, hl29, hh29, hP29_0⟩, hE29⟩ := h29
      have hE29 := hE29.symm
      subst hE29
      try simp only [hz22.eq, hz26.eq] at hP29_0
      refine Jz_if_ne (tgt := 38) jEq.rf dX6_turnBack_32 (by decide) (fun c32 => ?_) (fun c32 => ?_)
      · refine J_aload_n dX6_turnBack_38 rfl ?_
        refine J_get jf_X6_22 dX6_turnBack_39 hO_a0 hF_tr ?_
        refine J_aload_n dX6_turnBack_42 rfl ?_
        refine J_get jf_X6_59 dX6_turnBack_43 hO_ro hF_g ?_
        have hz0 := hp7
        have hz1 := hp8
        have hz2 := hp9
        have hdc := jdir_cases g.toInt
        refine Jw_callV1 (q9 := (RX3, TX3, 7)) moX3_begin jw_ml_X6_52 jw_im_X3_begin jw_se_X3_begin hb_tr rfl rfl dX6_turnBack_46 (w_X3_begin_z (d - 1) _ tr g MT (by omega) hW  hb_tr ⟨_, hO_tr, hF_MT⟩) (by omega) (Nat.zero_le _) (Nat.zero_le _) (Nat.le_of_ble_eq_true rfl) (fun r46 V46 h46 => ?_)
        obtain ⟨h46, hX46_0, ⟨fv46_0, hfv46_0, hfp46_0⟩, ⟨fv46_1, hfv46_1, hfp46_1⟩, ⟨fv46_2, hfv46_2, hfp46_2⟩⟩ := h46
        obtain ⟨hW, hx46, hr46⟩ := h46
        have he := he.trans (hx46.sub (jsub_of rfl))
        have hfp := hfp.trans (hX46_0.sub (fun b hb => by simp only [List.mem_cons, List.not_mem_nil, or_false] at hb ⊢; first | (rcases hb with h9 <;> simp only [h9, true_or, or_true]) | omega))
        have ha0 := ha0.mono hx46.1
        have hb_md := hb_md.mono hx46.1
        have hb_tr := hb_tr.mono hx46.1
        have hb_ro := hb_ro.mono hx46.1
        have hb_s := hb_s.mono hx46.1
        have hb_xx := hb_xx.mono hx46.1
        have hb_yy := hb_yy.mono hx46.1
        have hb_zz := hb_zz.mono hx46.1
        have hb_sT := hb_sT.mono hx46.1
        have hb_xxT := hb_xxT.mono hx46.1
        have hb_yyT := hb_yyT.mono hx46.1
        have hb_zzT := hb_zzT.mono hx46.1
        have hO_a0 := hx46.2 _ _ hO_a0 (jnot_of rfl)
        have hK_a0 := hK_a0.mono hx46.1
        have hO_ro := (hX46_0 ro (fun q => hAB ro List.mem_cons_self (List.mem_cons.mpr (Or.inl (List.mem_singleton.mp q))))).trans hO_ro
        have hK_ro := hK_ro.mono hx46.1
        obtain ⟨fs46tr, hOfs46tr, hRfs46tr⟩ := hx46.1.keep hO_tr
        have hKfs46tr : jokO _ (jFs 1) fs46tr := hW _ _ id hOfs46tr
        have hFfs46tr_1 := hRfs46tr _ _ hF_sT
        have hFfs46tr_2 := hRfs46tr _ _ hF_xxT
        have hFfs46tr_3 := hRfs46tr _ _ hF_yyT
        have hFfs46tr_4 := hRfs46tr _ _ hF_zzT
        have ha_S := (hX46_0 s (fun q => hAB s (List.mem_cons_of_mem _ List.mem_cons_self) (List.mem_cons.mpr (Or.inl (List.mem_singleton.mp q))))).trans ha_S
        have ha_X := (hX46_0 xx (fun q => hAB xx (List.mem_cons_of_mem _ (List.mem_cons_of_mem _ List.mem_cons_self)) (List.mem_cons.mpr (Or.inl (List.mem_singleton.mp q))))).trans ha_X
        have ha_Y := (hX46_0 yy (fun q => hAB yy (List.mem_cons_of_mem _ (List.mem_cons_of_mem _ (List.mem_cons_of_mem _ List.mem_cons_self))) (List.mem_cons.mpr (Or.inl (List.mem_singleton.mp q))))).trans ha_Y
        have ha_Z := (hX46_0 zz (fun q => hAB zz (List.mem_cons_of_mem _ (List.mem_cons_of_mem _ (List.mem_cons_of_mem _ (List.mem_cons_of_mem _ List.mem_cons_self)))) (List.mem_cons.mpr (Or.inl (List.mem_singleton.mp q))))).trans ha_Z
        have ha_ST := hx46.2 _ _ ha_ST (jnot_of rfl)
        have ha_XT := hx46.2 _ _ ha_XT (jnot_of rfl)
        have ha_YT := hx46.2 _ _ ha_YT (jnot_of rfl)
        have ha_ZT := hx46.2 _ _ ha_ZT (jnot_of rfl)
        cases hr46
        have hFv46_0 := hfv46_0.get hOfs46tr
        have hsb46_0 : MT = fv46_0 := (jI_inj.mp hfp46_0).symm
        subst hsb46_0
        have hFv46_1 := hfv46_1.get hOfs46tr
        have hsb46_1 : g = fv46_1 := (jI_inj.mp hfp46_1).symm
        subst hsb46_1
        have hFv46_2 := hfv46_2.get hOfs46tr
        have hzf46_2 : jEq fv46_2.toInt (0) := hfp46_2
        clear hfp46_2
        refine J_aload_n dX6_turnBack_49 rfl ?_
        refine J_get jf_X6_69 dX6_turnBack_50 hO_ro hF_n ?_
        refine Jz_iconst 1 dX6_turnBack_53 (by decide) (fun y53 he53 => ?_)
        refine Jz_isub jEq.rf he53 dX6_turnBack_54 (by omega) (by omega) (fun y54 he54 => ?_)
        refine J_istore_n dX6_turnBack_55 rfl (by decide) ?_
        have L56 : ∀ (N : Nat) (V : jH) (i3n56 : Int32) (gs56tr : List Value) (g6n56 : Int32) (F6n56 : Nat → Int32) (F34n56 : Nat → Int32) (F35n56 : Nat → Int32) (F36n56 : Nat → Int32), WT V → jeff [.inr 1, .inl 6, .inl 34, .inl 35, .inl 36] V0 V → (jis V (.inr 4) a0) → (jis V (.inl 4) md) → (jis V (.inr 1) tr) → (jis V (.inr 1) ro) → (jis V (.inl 6) s) → (jis V (.inl 34) xx) → (jis V (.inl 35) yy) → (jis V (.inl 36) zz) → (jis V (.inl 6) sT) → (jis V (.inl 34) xxT) → (jis V (.inl 35) yyT) → (jis V (.inl 36) zzT) → (jfp [ro, s, xx, yy, zz, tr, sT, xxT, yyT, zzT] V0 V) → (V a0 = some (.inr (4, fs_a0))) → (jokO V (jFs 4) fs_a0) → (V ro = some (.inr (1, fs_ro))) → (jokO V (jFs 1) fs_ro) → (V tr = some (.inr (1, gs56tr))) → (gs56tr[1]? = some (.ref sT)) → (gs56tr[2]? = some (.ref xxT)) → (gs56tr[3]? = some (.ref yyT)) → (gs56tr[4]? = some (.ref zzT)) → (gs56tr[0]? = some (.int MT)) → (gs56tr[5]? = some (.int g)) → (gs56tr[6]? = some (.int g6n56)) → (V sT = some (.inl (6, 120, .inl F6n56))) → (V xxT = some (.inl (34, 121, .inl F34n56))) → (V yyT = some (.inl (35, 121, .inl F35n56))) → (V zzT = some (.inl (36, 121, .inl F36n56))) → (V s = some (.inl (6, 60, .inl S))) → (V xx = some (.inl (34, 61, .inl X))) → (V yy = some (.inl (35, 61, .inl Y))) → (V zz = some (.inl (36, 61, .inl Z))) → (-1 ≤ i3n56.toInt ∧ i3n56.toInt ≤ n.toInt - 1) → (g6n56.toInt = n.toInt - 1 - i3n56.toInt) → (∀ j : Nat, (j : Int) < g6n56.toInt → (F6n56 j).toInt = (jTb g.toInt (fun q => (S q).toInt) n.toInt.toNat) j) → (jrv g.toInt (jTb g.toInt (fun q => (S q).toInt) n.toInt.toNat) g6n56.toInt.toNat F34n56 F35n56 F36n56) → (jav g.toInt (jTb g.toInt (fun q => (S q).toInt) n.toInt.toNat) g6n56.toInt.toNat) → (i3n56.toInt + 2).toNat < N → J tS mX6_turnBack d 56 [some (.ref a0), some (.int x1), some (.ref ro), some (.int i3n56)] [] V 0 0 (fun r V => (jPost [.inr 1, .inl 6, .inl 34, .inl 35, .inl 36] V0 (fun r _ => ∃ y : Int32, r = some (.int y) ∧ ((-2147483648) ≤ y.toInt) ∧ (y.toInt ≤ 2147483647) ∧ (y.toInt = n.toInt))) r V ∧ (∃ S2 X2 Y2 Z2 : Nat → Int32, jrw V ro s xx yy zz 60 g.toInt (n.toInt) S2 X2 Y2 Z2 ∧ (∀ j : Nat, (j : Int) < n.toInt → (S2 j).toInt = (jTb g.toInt (fun q => (S q).toInt) n.toInt.toNat) j) ∧ jrv g.toInt (jTb g.toInt (fun q => (S q).toInt) n.toInt.toNat) (n.toInt).toNat X2 Y2 Z2) ∧ (∃ (g2 n2 : Int) (S2 X2 Y2 Z2 : Nat → Int32), jrw V tr sT xxT yyT zzT 120 g2 n2 S2 X2 Y2 Z2 ∧ (X2 0).toInt = 0 ∧ (Y2 0).toInt = 0 ∧ (Z2 0).toInt = 0) ∧ jfp [ro, s, xx, yy, zz, tr, sT, xxT, yyT, zzT] V0 V) := by
          intro N
          induction N with
          | zero => intro V i3n56 gs56tr g6n56 F6n56 F34n56 F35n56 F36n56 hW he ha0 hb_md hb_tr hb_ro hb_s hb_xx hb_yy hb_zz hb_sT hb_xxT hb_yyT hb_zzT hfp hO_a0 hK_a0 hO_ro hK_ro hOgs56tr hFgs56tr_1 hFgs56tr_2 hFgs56tr_3 hFgs56tr_4 hFgs56tr_0 hFgs56tr_5 hFgs56tr_6 hAF6n56 hAF34n56 hAF35n56 hAF36n56 ha_S ha_X ha_Y ha_Z hi htn hts hjv hav hm; exact absurd hm (Nat.not_lt_zero _)
          | succ N ih =>
            intro V i3n56 gs56tr g6n56 F6n56 F34n56 F35n56 F36n56 hW he ha0 hb_md hb_tr hb_ro hb_s hb_xx hb_yy hb_zz hb_sT hb_xxT hb_yyT hb_zzT hfp hO_a0 hK_a0 hO_ro hK_ro hOgs56tr hFgs56tr_1 hFgs56tr_2 hFgs56tr_3 hFgs56tr_4 hFgs56tr_0 hFgs56tr_5 hFgs56tr_6 hAF6n56 hAF34n56 hAF35n56 hAF36n56 ha_S ha_X ha_Y ha_Z hi htn hts hjv hav hm
            have ih56 := ih
            have hri3 := j_rng i3n56
            have hKgs56tr : jokO V (jFs 1) gs56tr := hW _ _ id hOgs56tr
            have hrgg6n56 : 0 ≤ g6n56.toInt ∧ g6n56.toInt ≤ 120 := jok_rngI hKgs56tr rfl hFgs56tr_6
            obtain ⟨hNF6n56, hvF6n56⟩ := WT_rngI (r := ((-2147483648), 2147483647)) hW id rfl hAF6n56
            clear hNF6n56
            obtain ⟨hNF34n56, hvF34n56⟩ := WT_rngI (r := ((-2147483648), 2147483647)) hW id rfl hAF34n56
            clear hNF34n56
            obtain ⟨hNF35n56, hvF35n56⟩ := WT_rngI (r := ((-2147483648), 2147483647)) hW id rfl hAF35n56
            clear hNF35n56
            obtain ⟨hNF36n56, hvF36n56⟩ := WT_rngI (r := ((-2147483648), 2147483647)) hW id rfl hAF36n56
            clear hNF36n56
            refine J_iload_n dX6_turnBack_56 rfl ?_
            refine Jz_if_lt (tgt := 91) jEq.rf dX6_turnBack_57 (by decide) (fun c57 => ?_) (fun c57 => ?_)
            · refine J_aload_n dX6_turnBack_91 rfl ?_
              refine J_aload_n dX6_turnBack_92 rfl ?_
              refine J_get jf_X6_22 dX6_turnBack_93 hO_a0 hF_tr ?_
              have hfin : g6n56.toInt = n.toInt := by omega
              refine Jw_callV1 (q9 := (RX3, TX3, 7)) moX3_become jw_ml_X6_89 jw_im_X3_become jw_se_X3_become hb_ro rfl rfl dX6_turnBack_96 (w_X3_become_z (d - 1) _ ro tr M g g6n56 s xx yy zz sT xxT yyT zzT S X Y Z F6n56 F34n56 F35n56 F36n56 (by omega) hW  hb_ro hb_tr ⟨_, hO_ro, hF_M⟩ ⟨_, hOgs56tr, hFgs56tr_5⟩ ⟨_, hOgs56tr, hFgs56tr_6⟩ ⟨_, hO_ro, hF_s⟩ ⟨_, hO_ro, hF_xx⟩ ⟨_, hO_ro, hF_yy⟩ ⟨_, hO_ro, hF_zz⟩ ⟨_, hOgs56tr, hFgs56tr_1⟩ ⟨_, hOgs56tr, hFgs56tr_2⟩ ⟨_, hOgs56tr, hFgs56tr_3⟩ ⟨_, hOgs56tr, hFgs56tr_4⟩ (fun e => hBA tr List.mem_cons_self (e ▸ List.mem_cons_self)) (fun e => hBA sT (List.mem_cons_of_mem _ List.mem_cons_self) (e ▸ (List.mem_cons_of_mem _ List.mem_cons_self))) (fun e => hBA xxT (List.mem_cons_of_mem _ (List.mem_cons_of_mem _ List.mem_cons_self)) (e ▸ (List.mem_cons_of_mem _ (List.mem_cons_of_mem _ List.mem_cons_self)))) (fun e => hBA yyT (List.mem_cons_of_mem _ (List.mem_cons_of_mem _ (List.mem_cons_of_mem _ List.mem_cons_self))) (e ▸ (List.mem_cons_of_mem _ (List.mem_cons_of_mem _ (List.mem_cons_of_mem _ List.mem_cons_self))))) (fun e => hBA zzT (List.mem_cons_of_mem _ (List.mem_cons_of_mem _ (List.mem_cons_of_mem _ (List.mem_cons_of_mem _ List.mem_cons_self)))) (e ▸ (List.mem_cons_of_mem _ (List.mem_cons_of_mem _ (List.mem_cons_of_mem _ (List.mem_cons_of_mem _ List.mem_cons_self)))))) ha_S ha_X ha_Y ha_Z hAF6n56 hAF34n56 hAF35n56 hAF36n56 (by omega) (by omega) (by omega) (by omega) (by omega)) (by omega) (Nat.zero_le _) (Nat.zero_le _) (Nat.le_of_ble_eq_true rfl) (fun r96 V96 h96 => ?_)
              obtain ⟨h96, hX96_0, hX96_1, hX96_2, hX96_3, hX96_4, ⟨fv96_0, hfv96_0, hfp96_0⟩, ⟨fv96_1, hfv96_1, hfp96_1⟩, ⟨fv96_2, hfv96_2, hfp96_2⟩⟩ := h96
              obtain ⟨hW, hx96, hr96⟩ := h96
              have he := he.trans (hx96.sub (jsub_of rfl))
              have hfp := hfp.trans (hX96_4.sub (fun b hb => by simp only [List.mem_cons, List.not_mem_nil, or_false] at hb ⊢; first | (rcases hb with h9 | h9 | h9 | h9 | h9 <;> simp only [h9, true_or, or_true]) | omega))
              have ha0 := ha0.mono hx96.1
              have hb_md := hb_md.mono hx96.1
              have hb_tr := hb_tr.mono hx96.1
              have hb_ro := hb_ro.mono hx96.1
              have hb_s := hb_s.mono hx96.1
              have hb_xx := hb_xx.mono hx96.1
              have hb_yy := hb_yy.mono hx96.1
              have hb_zz := hb_zz.mono hx96.1
              have hb_sT := hb_sT.mono hx96.1
              have hb_xxT := hb_xxT.mono hx96.1
              have hb_yyT := hb_yyT.mono hx96.1
              have hb_zzT := hb_zzT.mono hx96.1
              have hO_a0 := hx96.2 _ _ hO_a0 (jnot_of rfl)
              have hK_a0 := hK_a0.mono hx96.1
              obtain ⟨fs96ro, hOfs96ro, hRfs96ro⟩ := hx96.1.keep hO_ro
              have hKfs96ro : jokO _ (jFs 1) fs96ro := hW _ _ id hOfs96ro
              have hFfs96ro_1 := hRfs96ro _ _ hF_s
              have hFfs96ro_2 := hRfs96ro _ _ hF_xx
              have hFfs96ro_3 := hRfs96ro _ _ hF_yy
              have hFfs96ro_4 := hRfs96ro _ _ hF_zz
              have hOgs56tr := (hX96_4 tr (hBA tr List.mem_cons_self)).trans hOgs56tr
              have hKgs56tr := hKgs56tr.mono hx96.1
              have hAF6n56 := (hX96_4 sT (hBA sT (List.mem_cons_of_mem _ List.mem_cons_self))).trans hAF6n56
              have hAF34n56 := (hX96_4 xxT (hBA xxT (List.mem_cons_of_mem _ (List.mem_cons_of_mem _ List.mem_cons_self)))).trans hAF34n56
              have hAF35n56 := (hX96_4 yyT (hBA yyT (List.mem_cons_of_mem _ (List.mem_cons_of_mem _ (List.mem_cons_of_mem _ List.mem_cons_self))))).trans hAF35n56
              have hAF36n56 := (hX96_4 zzT (hBA zzT (List.mem_cons_of_mem _ (List.mem_cons_of_mem _ (List.mem_cons_of_mem _ (List.mem_cons_of_mem _ List.mem_cons_self)))))).trans hAF36n56
              cases hr96
              have hFv96_0 := hfv96_0.get hOfs96ro
              have hsb96_0 : M = fv96_0 := (jI_inj.mp hfp96_0).symm
              subst hsb96_0
              have hFv96_1 := hfv96_1.get hOfs96ro
              have hsb96_1 : g = fv96_1 := (jI_inj.mp hfp96_1).symm
              subst hsb96_1
              have hFv96_2 := hfv96_2.get hOfs96ro
              have hsb96_2 : g6n56 = fv96_2 := (jI_inj.mp hfp96_2).symm
              subst hsb96_2
              obtain ⟨S96, hS96, hSe96⟩ := hX96_0
              obtain ⟨X96, hXa96, hXe96⟩ := hX96_1
              obtain ⟨Y96, hYa96, hYe96⟩ := hX96_2
              obtain ⟨Z96, hZa96, hZe96⟩ := hX96_3
              obtain ⟨hN_S96, hv_S96⟩ := WT_rngI (r := ((-2147483648), 2147483647)) hW id rfl hS96
              clear hN_S96
              obtain ⟨hN_X96, hv_X96⟩ := WT_rngI (r := ((-2147483648), 2147483647)) hW id rfl hXa96
              clear hN_X96
              obtain ⟨hN_Y96, hv_Y96⟩ := WT_rngI (r := ((-2147483648), 2147483647)) hW id rfl hYa96
              clear hN_Y96
              obtain ⟨hN_Z96, hv_Z96⟩ := WT_rngI (r := ((-2147483648), 2147483647)) hW id rfl hZa96
              clear hN_Z96
              refine J_aload_n dX6_turnBack_99 rfl ?_
              refine J_get jf_X6_69 dX6_turnBack_100 hOfs96ro hFv96_2 ?_
              exact J_ret (r := some (.int _)) dX6_turnBack_103 ⟨rfl, _, rfl, rfl⟩ (⟨⟨hW, he, ⟨_, rfl, (j_rng _).1, (j_rng _).2, (by omega)⟩⟩, ⟨S96, X96, Y96, Z96, ⟨⟨_, ⟨_, hOfs96ro, hFv96_0⟩, hm_ro⟩, ⟨_, ⟨_, hOfs96ro, hFv96_1⟩, rfl⟩, ⟨_, ⟨_, hOfs96ro, hFv96_2⟩, hfin⟩, ⟨_, hOfs96ro, hFfs96ro_1⟩, ⟨_, hOfs96ro, hFfs96ro_2⟩, ⟨_, hOfs96ro, hFfs96ro_3⟩, ⟨_, hOfs96ro, hFfs96ro_4⟩, hS96, hXa96, hYa96, hZa96⟩, (fun j hj => by rw [hSe96 j (by omega)]; exact hts j (by omega)), (by intro i hi; rw [hXe96 i (by omega), hYe96 i (by omega), hZe96 i (by omega)]; exact hjv i (by omega))⟩, ⟨_, _, _, _, _, _, ⟨⟨_, ⟨_, hOgs56tr, hFgs56tr_0⟩, hm_tr⟩, ⟨_, ⟨_, hOgs56tr, hFgs56tr_5⟩, rfl⟩, ⟨_, ⟨_, hOgs56tr, hFgs56tr_6⟩, rfl⟩, ⟨_, hOgs56tr, hFgs56tr_1⟩, ⟨_, hOgs56tr, hFgs56tr_2⟩, ⟨_, hOgs56tr, hFgs56tr_3⟩, ⟨_, hOgs56tr, hFgs56tr_4⟩, hAF6n56, hAF34n56, hAF35n56, hAF36n56⟩, (hjv 0 (Nat.zero_le _))⟩, hfp⟩)
            · refine J_aload_n dX6_turnBack_60 rfl ?_
              refine J_get jf_X6_22 dX6_turnBack_61 hO_a0 hF_tr ?_
              refine J_aload_n dX6_turnBack_64 rfl ?_
              refine J_get jf_X6_59 dX6_turnBack_65 hO_ro hF_g ?_
              refine J_aload_n dX6_turnBack_68 rfl ?_
              refine J_iload_n dX6_turnBack_69 rfl ?_
              refine Jw_callV1 (q9 := (RX3, TX3, 7)) moX3_direction jw_ml_X6_81 jw_im_X3_direction jw_se_X3_direction hb_ro rfl rfl dX6_turnBack_70 (w_X3_direction_z (d - 1) _ ro i3n56 s S (by omega) hW  hb_ro ⟨_, hO_ro, hF_s⟩ ha_S (by omega) (by omega) (by omega)) (by omega) (Nat.zero_le _) (Nat.zero_le _) (Nat.le_of_ble_eq_true rfl) (fun r70 V70 h70 => ?_)
              obtain ⟨⟨y70, rfl, hl70, hh70, hP70_0⟩, hE70⟩ := h70
              have hE70 := hE70.symm
              subst hE70
              clear hl70 hh70
              have hz70 : jEq y70.toInt ((S (i3n56.toInt).toNat).toInt) := hP70_0
              clear hP70_0
              have hsd := hp6 i3n56.toInt.toNat (by omega)
              refine J_callS2 moX0_opposite jw_ml_X6_103 jw_st_X0_opposite dX6_turnBack_73 (w_X0_opposite_z (d - 1) _ g y70 (by omega)   (by omega) (by omega) (by (try simp only [hz70.eq, true_and, and_true]) <;> omega) (by (try simp only [hz70.eq, true_and, and_true]) <;> omega)) (by omega) (Nat.zero_le _) (Nat.zero_le _) (Nat.le_of_ble_eq_true rfl) (fun r73 V73 h73 => ?_)
              obtain ⟨⟨y73, rfl, hl73, hh73, hP73_0⟩, hE73⟩ := h73
              have hE73 := hE73.symm
              subst hE73
              clear hl73 hh73
              try simp only [hz70.eq] at hP73_0
              have hz73 : jEq y73.toInt (jopp (g.toInt) ((S (i3n56.toInt).toNat).toInt)) := hP73_0
              clear hP73_0
              have hob := jopp_b (g := g.toInt) (d := (S i3n56.toInt.toNat).toInt) (by omega) (by omega)
              have htp : (jTb g.toInt (fun q => (S q).toInt) n.toInt.toNat) g6n56.toInt.toNat = y73.toInt := (by unfold jTb; (show jopp _ (S _).toInt = _); rw [show n.toInt.toNat - 1 - g6n56.toInt.toNat = i3n56.toInt.toNat by omega]; exact (hz73.eq).symm)
              have hbx := hjv.b g6n56.toInt.toNat (Nat.le_refl _)
              have hcc : jav g.toInt (jTb g.toInt (fun q => (S q).toInt) n.toInt.toNat) (g6n56.toInt.toNat + 1) := hp10.mono (by omega)
              refine Jw_callV1 (q9 := (RX3, TX3, 7)) moX3_lay jw_ml_X6_72 jw_im_X3_lay jw_se_X3_lay hb_tr rfl rfl dX6_turnBack_76 (w_X3_lay_yes (d - 1) _ tr y73 MT g g6n56 sT xxT yyT zzT F6n56 F34n56 F35n56 F36n56 (by omega) hW  hb_tr ⟨_, hOgs56tr, hFgs56tr_0⟩ ⟨_, hOgs56tr, hFgs56tr_5⟩ ⟨_, hOgs56tr, hFgs56tr_6⟩ ⟨_, hOgs56tr, hFgs56tr_1⟩ ⟨_, hOgs56tr, hFgs56tr_2⟩ ⟨_, hOgs56tr, hFgs56tr_3⟩ ⟨_, hOgs56tr, hFgs56tr_4⟩ hAF6n56 hAF34n56 hAF35n56 hAF36n56 (by omega) (by omega) (by omega) (by omega) (by omega) (by first | omega | (simp only [hz73.eq]; omega)) (by first | omega | (simp only [hz73.eq]; omega)) (by omega) (by omega) (by omega) (by omega) (by omega) (by omega) (by omega) (fun j hj q => (jav_succ.mp hcc).2 j (by omega) ((hjv.next (by omega)).mpr (by rw [htp]; exact q)))) (by omega) (Nat.zero_le _) (Nat.zero_le _) (Nat.le_of_ble_eq_true rfl) (fun r76 V76 h76 => ?_)
              obtain ⟨h76, hX76_0, hX76_1, hX76_2, hX76_3, hX76_4, ⟨fv76_0, hfv76_0, hfp76_0⟩, ⟨fv76_1, hfv76_1, hfp76_1⟩, ⟨fv76_2, hfv76_2, hfp76_2⟩⟩ := h76
              obtain ⟨hW, hx76, hr76⟩ := h76
              have he := he.trans (hx76.sub (jsub_of rfl))
              have hfp := hfp.trans (hX76_4.sub (fun b hb => by simp only [List.mem_cons, List.not_mem_nil, or_false] at hb ⊢; first | (rcases hb with h9 | h9 | h9 | h9 | h9 <;> simp only [h9, true_or, or_true]) | omega))
              have ha0 := ha0.mono hx76.1
              have hb_md := hb_md.mono hx76.1
              have hb_tr := hb_tr.mono hx76.1
              have hb_ro := hb_ro.mono hx76.1
              have hb_s := hb_s.mono hx76.1
              have hb_xx := hb_xx.mono hx76.1
              have hb_yy := hb_yy.mono hx76.1
              have hb_zz := hb_zz.mono hx76.1
              have hb_sT := hb_sT.mono hx76.1
              have hb_xxT := hb_xxT.mono hx76.1
              have hb_yyT := hb_yyT.mono hx76.1
              have hb_zzT := hb_zzT.mono hx76.1
              have hO_a0 := hx76.2 _ _ hO_a0 (jnot_of rfl)
              have hK_a0 := hK_a0.mono hx76.1
              have hO_ro := (hX76_4 ro (hAB ro List.mem_cons_self)).trans hO_ro
              have hK_ro := hK_ro.mono hx76.1
              obtain ⟨fs76tr, hOfs76tr, hRfs76tr⟩ := hx76.1.keep hOgs56tr
              have hKfs76tr : jokO _ (jFs 1) fs76tr := hW _ _ id hOfs76tr
              have hFfs76tr_1 := hRfs76tr _ _ hFgs56tr_1
              have hFfs76tr_2 := hRfs76tr _ _ hFgs56tr_2
              have hFfs76tr_3 := hRfs76tr _ _ hFgs56tr_3
              have hFfs76tr_4 := hRfs76tr _ _ hFgs56tr_4
              have ha_S := (hX76_4 s (hAB s (List.mem_cons_of_mem _ List.mem_cons_self))).trans ha_S
              have ha_X := (hX76_4 xx (hAB xx (List.mem_cons_of_mem _ (List.mem_cons_of_mem _ List.mem_cons_self)))).trans ha_X
              have ha_Y := (hX76_4 yy (hAB yy (List.mem_cons_of_mem _ (List.mem_cons_of_mem _ (List.mem_cons_of_mem _ List.mem_cons_self))))).trans ha_Y
              have ha_Z := (hX76_4 zz (hAB zz (List.mem_cons_of_mem _ (List.mem_cons_of_mem _ (List.mem_cons_of_mem _ (List.mem_cons_of_mem _ List.mem_cons_self)))))).trans ha_Z
              obtain ⟨y76, rfl, hl76, hh76, hP76_0⟩ := hr76
              try simp only [hz73.eq] at hP76_0
              have hFv76_0 := hfv76_0.get hOfs76tr
              try simp only [hz73.eq] at hfp76_0
              have hzf76_0 : jEq fv76_0.toInt ((g6n56.toInt) + 1) := hfp76_0
              clear hfp76_0
              have hFv76_1 := hfv76_1.get hOfs76tr
              try simp only [hz73.eq] at hfp76_1
              have hsb76_1 : MT = fv76_1 := (jI_inj.mp hfp76_1).symm
              subst hsb76_1
              have hFv76_2 := hfv76_2.get hOfs76tr
              try simp only [hz73.eq] at hfp76_2
              have hsb76_2 : g = fv76_2 := (jI_inj.mp hfp76_2).symm
              subst hsb76_2
              obtain ⟨S76, hS76, hSn76, hSo76⟩ := hX76_0
              obtain ⟨X76, hXa76, hXn76, hXo76⟩ := hX76_1
              obtain ⟨Y76, hYa76, hYn76, hYo76⟩ := hX76_2
              obtain ⟨Z76, hZa76, hZn76, hZo76⟩ := hX76_3
              obtain ⟨hN_S76, hv_S76⟩ := WT_rngI (r := ((-2147483648), 2147483647)) hW id rfl hS76
              clear hN_S76
              obtain ⟨hN_X76, hv_X76⟩ := WT_rngI (r := ((-2147483648), 2147483647)) hW id rfl hXa76
              clear hN_X76
              obtain ⟨hN_Y76, hv_Y76⟩ := WT_rngI (r := ((-2147483648), 2147483647)) hW id rfl hYa76
              clear hN_Y76
              obtain ⟨hN_Z76, hv_Z76⟩ := WT_rngI (r := ((-2147483648), 2147483647)) hW id rfl hZa76
              clear hN_Z76
              refine Jz_if_ne (tgt := 85) jEq.rf dX6_turnBack_79 (by decide) (fun c79 => ?_) (fun c79 => ?_)
              · refine Jz_iinc (-1) dX6_turnBack_85 rfl rfl (by decide) jEq.rf (by decide) (by omega) (by omega) (fun y85 he85 => ?_)
                refine J_goto (tgt := 56) dX6_turnBack_88 (by decide) ?_
                refine J.mask [true, true, true, true] ?_
                exact ih56 _ y85 fs76tr fv76_0 S76 X76 Y76 Z76 hW he ha0 hb_md hb_tr hb_ro hb_s hb_xx hb_yy hb_zz hb_sT hb_xxT hb_yyT hb_zzT hfp hO_a0 hK_a0 hO_ro hK_ro hOfs76tr hFfs76tr_1 hFfs76tr_2 hFfs76tr_3 hFfs76tr_4 hFv76_1 hFv76_2 hFv76_0 hS76 hXa76 hYa76 hZa76 ha_S ha_X ha_Y ha_Z (by (try simp only [he85.eq, hzf76_0.eq, true_and, and_true]) <;> omega) (by (try simp only [he85.eq, hzf76_0.eq, true_and, and_true]) <;> omega) (fun j hj => by rw [hzf76_0.eq] at hj; by_cases c : (j : Int) = g6n56.toInt; (have e : j = g6n56.toInt.toNat := by omega); subst e; rw [hSn76, htp]; rw [hSo76 j (by omega)]; exact hts j (by omega)) (by rw [hzf76_0.eq, show (g6n56.toInt + 1).toNat = g6n56.toInt.toNat + 1 by omega]; exact hjv.lay (by rw [hXn76, htp]) (by rw [hYn76, htp]) (by rw [hZn76, htp]) hXo76 hYo76 hZo76) (by rw [hzf76_0.eq, show (g6n56.toInt + 1).toNat = g6n56.toInt.toNat + 1 by omega]; exact hcc) (by (try simp only [he85.eq, hzf76_0.eq, true_and, and_true]) <;> omega)
              · exact False.elim (by omega)
        refine J.mask [true, true, true, true] ?_
        exact L56 _ _ y54 fs46tr fv46_2 ST XT YT ZT hW he ha0 hb_md hb_tr hb_ro hb_s hb_xx hb_yy hb_zz hb_sT hb_xxT hb_yyT hb_zzT hfp hO_a0 hK_a0 hO_ro hK_ro hOfs46tr hFfs46tr_1 hFfs46tr_2 hFfs46tr_3 hFfs46tr_4 hFv46_0 hFv46_1 hFv46_2 ha_ST ha_XT ha_YT ha_ZT ha_S ha_X ha_Y ha_Z (by (try simp only [he54.eq, hzf46_2.eq, true_and, and_true]) <;> omega) (by (try simp only [he54.eq, hzf46_2.eq, true_and, and_true]) <;> omega) (fun j hj => by rw [hzf46_2.eq] at hj; omega) (by rw [hzf46_2.eq]; intro i hi; rw [show i = 0 by omega]; exact ⟨hz0, hz1, hz2⟩) (by rw [hzf46_2.eq]; exact jav.zero) (Nat.lt_succ_self _)
      · exact False.elim (by have q := hp5 (by omega); omega)
set_option maxRecDepth 100000 in
set_option maxHeartbeats 8000000 in
theorem w_X6_walk_zbad {tS : jTS} (d : Nat) (V0 : jH) (a0 : Nat) (x1 : Int32) (hd : 2 ≤ d) (hW : WT V0) (ha0 : jis V0 (.inr 4) a0) (hp0 : ¬ (0 ≤ x1.toInt ∧ x1.toInt ≤ 3)) : jTot tS mX6_walk d [.ref a0, .int x1] V0 0 0 (fun r V => (fun r _ => ∃ y : Int32, r = some (.int y) ∧ ((-2147483648) ≤ y.toInt) ∧ (y.toInt ≤ 2147483647) ∧ (y.toInt = -2)) r V ∧ V = V0) := by
  refine jTot.of_J [some (.ref a0), some (.int x1), none] moX6_walk (Nat.le_of_ble_eq_true rfl) rfl ?_
  have hrx1 := j_rng x1
  have he : jeff [] V0 V0 := jeff.refl _ _
  refine J_iload_n dX6_walk_0 rfl ?_
  refine J_callS1 moX0_isGround jw_ml_X6_46 jw_st_X0_isGround dX6_walk_1 (w_X0_isGround_z (d - 1) _ x1 (by omega)   ) (by omega) (Nat.zero_le _) (Nat.zero_le _) (Nat.le_of_ble_eq_true rfl) (fun r1 V1 h1 => ?_)
  obtain ⟨⟨y1, rfl, hl1, hh1, hP1_0⟩, hE1⟩ := h1
  have hE1 := hE1.symm
  subst hE1
  refine Jz_if_ne (tgt := 10) jEq.rf dX6_walk_4 (by decide) (fun c4 => ?_) (fun c4 => ?_)
  · exact False.elim (by omega)
  · refine Jz_bipush (-2) dX6_walk_7 (by decide) (fun y7 he7 => ?_)
    exact J_ret (r := some (.int _)) dX6_walk_9 ⟨rfl, _, rfl, rfl⟩ (⟨⟨_, rfl, (j_rng _).1, (j_rng _).2, (by (try simp only [he7.eq, true_and, and_true]) <;> omega)⟩, rfl⟩)
set_option maxRecDepth 100000 in
set_option maxHeartbeats 8000000 in
theorem w_X6_join_oo {tS : jTS} (d : Nat) (V0 : jH) (a0 : Nat) (x1 : Int32) (x2 : Int32) (k : Int32) (md : Nat) (hd : 4 ≤ d) (hW : WT V0) (ha0 : jis V0 (.inr 4) a0) (hf_k : jfI V0 a0 4 1 k) (hr_md : jfR V0 a0 4 0 md) (hp0 : ¬ (0 ≤ x1.toInt ∧ x1.toInt < k.toInt)) (hp1 : ¬ (0 ≤ x2.toInt ∧ x2.toInt < k.toInt)) : jTot tS mX6_join d [.ref a0, .int x1, .int x2] V0 0 0 (fun r V => (fun r _ => ∃ y : Int32, r = some (.int y) ∧ ((-2147483648) ≤ y.toInt) ∧ (y.toInt ≤ 2147483647) ∧ (y.toInt = -2)) r V ∧ V = V0) := by
  refine jTot.of_J [some (.ref a0), some (.int x1), some (.int x2), none, none, none] moX6_join (Nat.le_of_ble_eq_true rfl) rfl ?_
  have hrx1 := j_rng x1
  have hrx2 := j_rng x2
  have he : jeff [] V0 V0 := jeff.refl _ _
  obtain ⟨fs_a0, hO_a0, hK_a0⟩ := WT_obj hW id ha0
  have hF_k := hf_k.get hO_a0
  have hrk : 0 ≤ k.toInt ∧ k.toInt ≤ 16 := jok_rngI hK_a0 rfl hF_k
  have hF_md := hr_md.get hO_a0
  obtain ⟨w_md, hFq_md, b_md, hbq_md, hb_md⟩ := hK_a0.2 0 (.inr (some (.inl 4))) rfl
  cases hF_md.symm.trans (hFq_md.trans (congrArg some hbq_md))
  refine J_aload_n dX6_join_0 rfl ?_
  refine J_iload_n dX6_join_1 rfl ?_
  refine Jw_callV1 (q9 := (RX6, TX6, 7)) moX6_rowOf jw_ml_X6_55 jw_im_X6_rowOf jw_se_X6_rowOf ha0 rfl rfl dX6_join_2 (w_X6_rowOf_out (d - 1) _ a0 x1 hO_a0 hF_k (by omega)) (by omega) (Nat.zero_le _) (Nat.zero_le _) (Nat.le_of_ble_eq_true rfl) (fun r2 V2 h2 => ?_)
  obtain ⟨rfl, hE2⟩ := h2
  have hE2 := hE2.symm
  subst hE2
  · refine J_astore_nN dX6_join_5 rfl (by decide) ?_
    refine J_aload_n dX6_join_6 rfl ?_
    refine J_iload_n dX6_join_7 rfl ?_
    refine Jw_callV1 (q9 := (RX6, TX6, 7)) moX6_rowOf jw_ml_X6_55 jw_im_X6_rowOf jw_se_X6_rowOf ha0 rfl rfl dX6_join_8 (w_X6_rowOf_out (d - 1) _ a0 x2 hO_a0 hF_k (by omega)) (by omega) (Nat.zero_le _) (Nat.zero_le _) (Nat.le_of_ble_eq_true rfl) (fun r8 V8 h8 => ?_)
    obtain ⟨rfl, hE8⟩ := h8
    have hE8 := hE8.symm
    subst hE8
    · refine J_astoreN dX6_join_11 rfl (by decide) ?_
      refine J_aload_nN dX6_join_13 rfl ?_
      refine J_ifnullN (tgt := 22) dX6_join_14 (by decide) ?_
      refine Jz_bipush (-2) dX6_join_22 (by decide) (fun y22 he22 => ?_)
      exact J_ret (r := some (.int _)) dX6_join_24 ⟨rfl, _, rfl, rfl⟩ (⟨⟨_, rfl, (j_rng _).1, (j_rng _).2, (by (try simp only [he22.eq, true_and, and_true]) <;> omega)⟩, rfl⟩)
set_option maxRecDepth 100000 in
set_option maxHeartbeats 8000000 in
theorem w_X6_join_oi {tS : jTS} (d : Nat) (V0 : jH) (a0 : Nat) (x1 : Int32) (x2 : Int32) (k : Int32) (md : Nat) (f : Nat → Option Nat) (rb : Nat) (MB : Int32) (gB : Int32) (nB : Int32) (sB : Nat) (xxB : Nat) (yyB : Nat) (zzB : Nat) (SB : Nat → Int32) (XB : Nat → Int32) (YB : Nat → Int32) (ZB : Nat → Int32) (hd : 4 ≤ d) (hW : WT V0) (ha0 : jis V0 (.inr 4) a0) (hf_k : jfI V0 a0 4 1 k) (hr_md : jfR V0 a0 4 0 md) (ha_f : V0 md = some (.inl (4, 16, .inr (.inr (.inr (.inr f)))))) (hf_MB : jfI V0 rb 1 0 MB) (hf_gB : jfI V0 rb 1 5 gB) (hf_nB : jfI V0 rb 1 6 nB) (hr_sB : jfR V0 rb 1 1 sB) (hr_xxB : jfR V0 rb 1 2 xxB) (hr_yyB : jfR V0 rb 1 3 yyB) (hr_zzB : jfR V0 rb 1 4 zzB) (ha_SB : V0 sB = some (.inl (6, 60, .inl SB))) (ha_XB : V0 xxB = some (.inl (34, 61, .inl XB))) (ha_YB : V0 yyB = some (.inl (35, 61, .inl YB))) (ha_ZB : V0 zzB = some (.inl (36, 61, .inl ZB))) (hm_rb : MB.toInt = 60) (hn_rb : nB.toInt ≤ 60) (hfb : f x2.toInt.toNat = some rb) (hp0 : ¬ (0 ≤ x1.toInt ∧ x1.toInt < k.toInt)) (hp1 : 0 ≤ x2.toInt) (hp2 : x2.toInt < k.toInt) : jTot tS mX6_join d [.ref a0, .int x1, .int x2] V0 0 0 (fun r V => (fun r _ => ∃ y : Int32, r = some (.int y) ∧ ((-2147483648) ≤ y.toInt) ∧ (y.toInt ≤ 2147483647) ∧ (y.toInt = -2)) r V ∧ V = V0) := by
  refine jTot.of_J [some (.ref a0), some (.int x1), some (.int x2), none, none, none] moX6_join (Nat.le_of_ble_eq_true rfl) rfl ?_
  have hrx1 := j_rng x1
  have hrx2 := j_rng x2
  have he : jeff [] V0 V0 := jeff.refl _ _
  obtain ⟨fs_a0, hO_a0, hK_a0⟩ := WT_obj hW id ha0
  have hF_k := hf_k.get hO_a0
  have hrk : 0 ≤ k.toInt ∧ k.toInt ≤ 16 := jok_rngI hK_a0 rfl hF_k
  have hF_md := hr_md.get hO_a0
  obtain ⟨w_md, hFq_md, b_md, hbq_md, hb_md⟩ := hK_a0.2 0 (.inr (some (.inl 4))) rfl
  cases hF_md.symm.trans (hFq_md.trans (congrArg some hbq_md))
  have hb_rb : jis V0 (.inr 1) rb := by obtain ⟨q1, q2, q3⟩ := hf_MB; exact ⟨_, q2, rfl⟩
  obtain ⟨fs_rb, hO_rb, hK_rb⟩ := WT_obj hW id hb_rb
  have hF_MB := hf_MB.get hO_rb
  have hrMB : 0 ≤ MB.toInt ∧ MB.toInt ≤ 120 := jok_rngI hK_rb rfl hF_MB
  have hF_gB := hf_gB.get hO_rb
  have hrgB : (-2147483648) ≤ gB.toInt ∧ gB.toInt ≤ 2147483647 := jok_rngI hK_rb rfl hF_gB
  have hF_nB := hf_nB.get hO_rb
  have hrnB : 0 ≤ nB.toInt ∧ nB.toInt ≤ 120 := jok_rngI hK_rb rfl hF_nB
  have hF_sB := hr_sB.get hO_rb
  have hb_sB : jis V0 (.inl 6) sB := ⟨_, ha_SB, rfl⟩
  obtain ⟨hN_SB, hv_SB⟩ := WT_rngI (r := (-2147483648, 2147483647)) hW id rfl ha_SB
  clear hN_SB
  have hF_xxB := hr_xxB.get hO_rb
  have hb_xxB : jis V0 (.inl 34) xxB := ⟨_, ha_XB, rfl⟩
  obtain ⟨hN_XB, hv_XB⟩ := WT_rngI (r := (-2147483648, 2147483647)) hW id rfl ha_XB
  clear hN_XB
  have hF_yyB := hr_yyB.get hO_rb
  have hb_yyB : jis V0 (.inl 35) yyB := ⟨_, ha_YB, rfl⟩
  obtain ⟨hN_YB, hv_YB⟩ := WT_rngI (r := (-2147483648, 2147483647)) hW id rfl ha_YB
  clear hN_YB
  have hF_zzB := hr_zzB.get hO_rb
  have hb_zzB : jis V0 (.inl 36) zzB := ⟨_, ha_ZB, rfl⟩
  obtain ⟨hN_ZB, hv_ZB⟩ := WT_rngI (r := (-2147483648, 2147483647)) hW id rfl ha_ZB
  clear hN_ZB
  refine J_aload_n dX6_join_0 rfl ?_
  refine J_iload_n dX6_join_1 rfl ?_
  refine Jw_callV1 (q9 := (RX6, TX6, 7)) moX6_rowOf jw_ml_X6_55 jw_im_X6_rowOf jw_se_X6_rowOf ha0 rfl rfl dX6_join_2 (w_X6_rowOf_out (d - 1) _ a0 x1 hO_a0 hF_k (by omega)) (by omega) (Nat.zero_le _) (Nat.zero_le _) (Nat.le_of_ble_eq_true rfl) (fun r2 V2 h2 => ?_)
  obtain ⟨rfl, hE2⟩ := h2
  have hE2 := hE2.symm
  subst hE2
  · refine J_astore_nN dX6_join_5 rfl (by decide) ?_
    refine J_aload_n dX6_join_6 rfl ?_
    refine J_iload_n dX6_join_7 rfl ?_
    refine Jw_callV1 (q9 := (RX6, TX6, 7)) moX6_rowOf jw_ml_X6_55 jw_im_X6_rowOf jw_se_X6_rowOf ha0 rfl rfl dX6_join_8 (w_X6_rowOf_in (d - 1) _ a0 x2 hO_a0 hF_md hF_k ha_f (by omega) (by omega) (by omega) hfb) (by omega) (Nat.zero_le _) (Nat.zero_le _) (Nat.le_of_ble_eq_true rfl) (fun r8 V8 h8 => ?_)
    obtain ⟨rfl, hE8⟩ := h8
    have hE8 := hE8.symm
    subst hE8
    · refine J_astore dX6_join_11 rfl (by decide) ?_
      refine J_aload_nN dX6_join_13 rfl ?_
      refine J_ifnullN (tgt := 22) dX6_join_14 (by decide) ?_
      refine Jz_bipush (-2) dX6_join_22 (by decide) (fun y22 he22 => ?_)
      exact J_ret (r := some (.int _)) dX6_join_24 ⟨rfl, _, rfl, rfl⟩ (⟨⟨_, rfl, (j_rng _).1, (j_rng _).2, (by (try simp only [he22.eq, true_and, and_true]) <;> omega)⟩, rfl⟩)
set_option maxRecDepth 100000 in
set_option maxHeartbeats 8000000 in
theorem w_X6_place_out {tS : jTS} (d : Nat) (V0 : jH) (a0 : Nat) (x1 : Int32) (x2 : Int32) (x3 : Int32) (k : Int32) (md : Nat) (hd : 1 ≤ d) (hW : WT V0) (ha0 : jis V0 (.inr 4) a0) (hf_k : jfI V0 a0 4 1 k) (hr_md : jfR V0 a0 4 0 md) (hp0 : ¬ (0 ≤ x1.toInt ∧ x1.toInt < k.toInt)) : jTot tS mX6_place d [.ref a0, .int x1, .int x2, .int x3] V0 0 0 (fun r V => (fun r _ => ∃ y : Int32, r = some (.int y) ∧ ((-2147483648) ≤ y.toInt) ∧ (y.toInt ≤ 2147483647) ∧ (y.toInt = -1000)) r V ∧ V = V0) := by
  refine jTot.of_J [some (.ref a0), some (.int x1), some (.int x2), some (.int x3), none] moX6_place (Nat.le_of_ble_eq_true rfl) rfl ?_
  have hrx1 := j_rng x1
  have hrx2 := j_rng x2
  have hrx3 := j_rng x3
  have he : jeff [] V0 V0 := jeff.refl _ _
  obtain ⟨fs_a0, hO_a0, hK_a0⟩ := WT_obj hW id ha0
  have hF_k := hf_k.get hO_a0
  have hrk : 0 ≤ k.toInt ∧ k.toInt ≤ 16 := jok_rngI hK_a0 rfl hF_k
  have hF_md := hr_md.get hO_a0
  obtain ⟨w_md, hFq_md, b_md, hbq_md, hb_md⟩ := hK_a0.2 0 (.inr (some (.inl 4))) rfl
  cases hF_md.symm.trans (hFq_md.trans (congrArg some hbq_md))
  refine J_aload_n dX6_place_0 rfl ?_
  refine J_iload_n dX6_place_1 rfl ?_
  refine Jw_callV1 (q9 := (RX6, TX6, 7)) moX6_rowOf jw_ml_X6_55 jw_im_X6_rowOf jw_se_X6_rowOf ha0 rfl rfl dX6_place_2 (w_X6_rowOf_out (d - 1) _ a0 x1 hO_a0 hF_k (by omega)) (by omega) (Nat.zero_le _) (Nat.zero_le _) (Nat.le_of_ble_eq_true rfl) (fun r2 V2 h2 => ?_)
  obtain ⟨rfl, hE2⟩ := h2
  have hE2 := hE2.symm
  subst hE2
  · refine J_astoreN dX6_place_5 rfl (by decide) ?_
    refine J_aloadN dX6_place_7 rfl ?_
    refine J_ifnullN (tgt := 25) dX6_place_9 (by decide) ?_
    refine Jz_sipush (-1000) dX6_place_25 (by decide) (fun y25 he25 => ?_)
    exact J_ret (r := some (.int _)) dX6_place_28 ⟨rfl, _, rfl, rfl⟩ (⟨⟨_, rfl, (j_rng _).1, (j_rng _).2, (by (try simp only [he25.eq, true_and, and_true]) <;> omega)⟩, rfl⟩)
set_option maxRecDepth 100000 in
set_option maxHeartbeats 8000000 in
theorem w_X6_place_bad {tS : jTS} (d : Nat) (V0 : jH) (a0 : Nat) (x1 : Int32) (x2 : Int32) (x3 : Int32) (k : Int32) (md : Nat) (f : Nat → Option Nat) (ro : Nat) (M : Int32) (g : Int32) (n : Int32) (s : Nat) (xx : Nat) (yy : Nat) (zz : Nat) (S : Nat → Int32) (X : Nat → Int32) (Y : Nat → Int32) (Z : Nat → Int32) (hd : 1 ≤ d) (hW : WT V0) (ha0 : jis V0 (.inr 4) a0) (hf_k : jfI V0 a0 4 1 k) (hr_md : jfR V0 a0 4 0 md) (ha_f : V0 md = some (.inl (4, 16, .inr (.inr (.inr (.inr f)))))) (hf_M : jfI V0 ro 1 0 M) (hf_g : jfI V0 ro 1 5 g) (hf_n : jfI V0 ro 1 6 n) (hr_s : jfR V0 ro 1 1 s) (hr_xx : jfR V0 ro 1 2 xx) (hr_yy : jfR V0 ro 1 3 yy) (hr_zz : jfR V0 ro 1 4 zz) (ha_S : V0 s = some (.inl (6, 60, .inl S))) (ha_X : V0 xx = some (.inl (34, 61, .inl X))) (ha_Y : V0 yy = some (.inl (35, 61, .inl Y))) (ha_Z : V0 zz = some (.inl (36, 61, .inl Z))) (hm_ro : M.toInt = 60) (hn_ro : n.toInt ≤ 60) (hfo : f x1.toInt.toNat = some ro) (hp0 : 0 ≤ x1.toInt) (hp1 : x1.toInt < k.toInt) (hp2 : ¬ (0 ≤ x2.toInt ∧ x2.toInt ≤ n.toInt ∧ 0 ≤ x3.toInt ∧ x3.toInt ≤ 2)) : jTot tS mX6_place d [.ref a0, .int x1, .int x2, .int x3] V0 0 0 (fun r V => (fun r _ => ∃ y : Int32, r = some (.int y) ∧ ((-2147483648) ≤ y.toInt) ∧ (y.toInt ≤ 2147483647) ∧ (y.toInt = -1000)) r V ∧ V = V0) := by
  refine jTot.of_J [some (.ref a0), some (.int x1), some (.int x2), some (.int x3), none] moX6_place (Nat.le_of_ble_eq_true rfl) rfl ?_
  have hrx1 := j_rng x1
  have hrx2 := j_rng x2
  have hrx3 := j_rng x3
  have he : jeff [] V0 V0 := jeff.refl _ _
  obtain ⟨fs_a0, hO_a0, hK_a0⟩ := WT_obj hW id ha0
  have hF_k := hf_k.get hO_a0
  have hrk : 0 ≤ k.toInt ∧ k.toInt ≤ 16 := jok_rngI hK_a0 rfl hF_k
  have hF_md := hr_md.get hO_a0
  obtain ⟨w_md, hFq_md, b_md, hbq_md, hb_md⟩ := hK_a0.2 0 (.inr (some (.inl 4))) rfl
  cases hF_md.symm.trans (hFq_md.trans (congrArg some hbq_md))
  have hb_ro : jis V0 (.inr 1) ro := by obtain ⟨q1, q2, q3⟩ := hf_M; exact ⟨_, q2, rfl⟩
  obtain ⟨fs_ro, hO_ro, hK_ro⟩ := WT_obj hW id hb_ro
  have hF_M := hf_M.get hO_ro
  have hrM : 0 ≤ M.toInt ∧ M.toInt ≤ 120 := jok_rngI hK_ro rfl hF_M
  have hF_g := hf_g.get hO_ro
  have hrg : (-2147483648) ≤ g.toInt ∧ g.toInt ≤ 2147483647 := jok_rngI hK_ro rfl hF_g
  have hF_n := hf_n.get hO_ro
  have hrn : 0 ≤ n.toInt ∧ n.toInt ≤ 120 := jok_rngI hK_ro rfl hF_n
  have hF_s := hr_s.get hO_ro
  have hb_s : jis V0 (.inl 6) s := ⟨_, ha_S, rfl⟩
  obtain ⟨hN_S, hv_S⟩ := WT_rngI (r := (-2147483648, 2147483647)) hW id rfl ha_S
  clear hN_S
  have hF_xx := hr_xx.get hO_ro
  have hb_xx : jis V0 (.inl 34) xx := ⟨_, ha_X, rfl⟩
  obtain ⟨hN_X, hv_X⟩ := WT_rngI (r := (-2147483648, 2147483647)) hW id rfl ha_X
  clear hN_X
  have hF_yy := hr_yy.get hO_ro
  have hb_yy : jis V0 (.inl 35) yy := ⟨_, ha_Y, rfl⟩
  obtain ⟨hN_Y, hv_Y⟩ := WT_rngI (r := (-2147483648, 2147483647)) hW id rfl ha_Y
  clear hN_Y
  have hF_zz := hr_zz.get hO_ro
  have hb_zz : jis V0 (.inl 36) zz := ⟨_, ha_Z, rfl⟩
  obtain ⟨hN_Z, hv_Z⟩ := WT_rngI (r := (-2147483648, 2147483647)) hW id rfl ha_Z
  clear hN_Z
  refine J_aload_n dX6_place_0 rfl ?_
  refine J_iload_n dX6_place_1 rfl ?_
  refine Jw_callV1 (q9 := (RX6, TX6, 7)) moX6_rowOf jw_ml_X6_55 jw_im_X6_rowOf jw_se_X6_rowOf ha0 rfl rfl dX6_place_2 (w_X6_rowOf_in (d - 1) _ a0 x1 hO_a0 hF_md hF_k ha_f (by omega) (by omega) (by omega) hfo) (by omega) (Nat.zero_le _) (Nat.zero_le _) (Nat.le_of_ble_eq_true rfl) (fun r2 V2 h2 => ?_)
  obtain ⟨rfl, hE2⟩ := h2
  have hE2 := hE2.symm
  subst hE2
  · refine J_astore dX6_place_5 rfl (by decide) ?_
    refine J_aload dX6_place_7 rfl ?_
    refine J_ifnull dX6_place_9 ?_
    refine J_iload_n dX6_place_12 rfl ?_
    refine Jz_if_lt (tgt := 25) jEq.rf dX6_place_13 (by decide) (fun c13 => ?_) (fun c13 => ?_)
    · refine Jz_sipush (-1000) dX6_place_25 (by decide) (fun y25 he25 => ?_)
      exact J_ret (r := some (.int _)) dX6_place_28 ⟨rfl, _, rfl, rfl⟩ (⟨⟨_, rfl, (j_rng _).1, (j_rng _).2, (by (try simp only [he25.eq, true_and, and_true]) <;> omega)⟩, rfl⟩)
    · refine J_iload_n dX6_place_16 rfl ?_
      refine J_aload dX6_place_17 rfl ?_
      refine J_get jf_X6_69 dX6_place_19 hO_ro hF_n ?_
      refine Jz_icmp_le (tgt := 29) jEq.rf jEq.rf dX6_place_22 (by decide) (fun c22 => ?_) (fun c22 => ?_)
      · refine J_iload_n dX6_place_29 rfl ?_
        rcases jsw2 x3 with hx30 | hx30 | hx30 | hx30 | hx30
        · have hx30t : x3.toInt = 0 := by rw [hx30]; rfl
          clear hx30
          refine J_tableIn (tgt := 56) dX6_place_30 (by omega) (by omega) (by rw [hx30t]; rfl) (by decide) ?_
          exact False.elim (by omega)
        · have hx30t : x3.toInt = 1 := by rw [hx30]; rfl
          clear hx30
          refine J_tableIn (tgt := 66) dX6_place_30 (by omega) (by omega) (by rw [hx30t]; rfl) (by decide) ?_
          exact False.elim (by omega)
        · have hx30t : x3.toInt = 2 := by rw [hx30]; rfl
          clear hx30
          refine J_tableIn (tgt := 76) dX6_place_30 (by omega) (by omega) (by rw [hx30t]; rfl) (by decide) ?_
          exact False.elim (by omega)
        · refine J_tableOut (tgt := 86) dX6_place_30 (Or.inl hx30) (by decide) ?_
          refine Jz_sipush (-1000) dX6_place_86 (by decide) (fun y86 he86 => ?_)
          exact J_ret (r := some (.int _)) dX6_place_89 ⟨rfl, _, rfl, rfl⟩ (⟨⟨_, rfl, (j_rng _).1, (j_rng _).2, (by (try simp only [he86.eq, true_and, and_true]) <;> omega)⟩, rfl⟩)
        · refine J_tableOut (tgt := 86) dX6_place_30 (Or.inr hx30) (by decide) ?_
          refine Jz_sipush (-1000) dX6_place_86 (by decide) (fun y86 he86 => ?_)
          exact J_ret (r := some (.int _)) dX6_place_89 ⟨rfl, _, rfl, rfl⟩ (⟨⟨_, rfl, (j_rng _).1, (j_rng _).2, (by (try simp only [he86.eq, true_and, and_true]) <;> omega)⟩, rfl⟩)
      · refine Jz_sipush (-1000) dX6_place_25 (by decide) (fun y25 he25 => ?_)
        exact J_ret (r := some (.int _)) dX6_place_28 ⟨rfl, _, rfl, rfl⟩ (⟨⟨_, rfl, (j_rng _).1, (j_rng _).2, (by (try simp only [he25.eq, true_and, and_true]) <;> omega)⟩, rfl⟩)
set_option maxRecDepth 100000 in
set_option maxHeartbeats 8000000 in
theorem w_X6_place_ok {tS : jTS} (d : Nat) (V0 : jH) (a0 : Nat) (x1 : Int32) (x2 : Int32) (x3 : Int32) (k : Int32) (md : Nat) (f : Nat → Option Nat) (ro : Nat) (M : Int32) (g : Int32) (n : Int32) (s : Nat) (xx : Nat) (yy : Nat) (zz : Nat) (S : Nat → Int32) (X : Nat → Int32) (Y : Nat → Int32) (Z : Nat → Int32) (hd : 1 ≤ d) (hW : WT V0) (ha0 : jis V0 (.inr 4) a0) (hf_k : jfI V0 a0 4 1 k) (hr_md : jfR V0 a0 4 0 md) (ha_f : V0 md = some (.inl (4, 16, .inr (.inr (.inr (.inr f)))))) (hf_M : jfI V0 ro 1 0 M) (hf_g : jfI V0 ro 1 5 g) (hf_n : jfI V0 ro 1 6 n) (hr_s : jfR V0 ro 1 1 s) (hr_xx : jfR V0 ro 1 2 xx) (hr_yy : jfR V0 ro 1 3 yy) (hr_zz : jfR V0 ro 1 4 zz) (ha_S : V0 s = some (.inl (6, 60, .inl S))) (ha_X : V0 xx = some (.inl (34, 61, .inl X))) (ha_Y : V0 yy = some (.inl (35, 61, .inl Y))) (ha_Z : V0 zz = some (.inl (36, 61, .inl Z))) (hm_ro : M.toInt = 60) (hn_ro : n.toInt ≤ 60) (hfo : f x1.toInt.toNat = some ro) (hp0 : 0 ≤ x1.toInt) (hp1 : x1.toInt < k.toInt) (hp2 : 0 ≤ x2.toInt) (hp3 : x2.toInt ≤ n.toInt) (hp4 : 0 ≤ x3.toInt) (hp5 : x3.toInt ≤ 2) : jTot tS mX6_place d [.ref a0, .int x1, .int x2, .int x3] V0 0 0 (fun r V => (fun r _ => ∃ y : Int32, r = some (.int y) ∧ ((-2147483648) ≤ y.toInt) ∧ (y.toInt ≤ 2147483647) ∧ ((x3.toInt = 0 ∧ y.toInt = (X x2.toInt.toNat).toInt) ∨ (x3.toInt = 1 ∧ y.toInt = (Y x2.toInt.toNat).toInt) ∨ (x3.toInt = 2 ∧ y.toInt = (Z x2.toInt.toNat).toInt))) r V ∧ V = V0) := by
  refine jTot.of_J [some (.ref a0), some (.int x1), some (.int x2), some (.int x3), none] moX6_place (Nat.le_of_ble_eq_true rfl) rfl ?_
  have hrx1 := j_rng x1
  have hrx2 := j_rng x2
  have hrx3 := j_rng x3
  have he : jeff [] V0 V0 := jeff.refl _ _
  obtain ⟨fs_a0, hO_a0, hK_a0⟩ := WT_obj hW id ha0
  have hF_k := hf_k.get hO_a0
  have hrk : 0 ≤ k.toInt ∧ k.toInt ≤ 16 := jok_rngI hK_a0 rfl hF_k
  have hF_md := hr_md.get hO_a0
  obtain ⟨w_md, hFq_md, b_md, hbq_md, hb_md⟩ := hK_a0.2 0 (.inr (some (.inl 4))) rfl
  cases hF_md.symm.trans (hFq_md.trans (congrArg some hbq_md))
  have hb_ro : jis V0 (.inr 1) ro := by obtain ⟨q1, q2, q3⟩ := hf_M; exact ⟨_, q2, rfl⟩
  obtain ⟨fs_ro, hO_ro, hK_ro⟩ := WT_obj hW id hb_ro
  have hF_M := hf_M.get hO_ro
  have hrM : 0 ≤ M.toInt ∧ M.toInt ≤ 120 := jok_rngI hK_ro rfl hF_M
  have hF_g := hf_g.get hO_ro
  have hrg : (-2147483648) ≤ g.toInt ∧ g.toInt ≤ 2147483647 := jok_rngI hK_ro rfl hF_g
  have hF_n := hf_n.get hO_ro
  have hrn : 0 ≤ n.toInt ∧ n.toInt ≤ 120 := jok_rngI hK_ro rfl hF_n
  have hF_s := hr_s.get hO_ro
  have hb_s : jis V0 (.inl 6) s := ⟨_, ha_S, rfl⟩
  obtain ⟨hN_S, hv_S⟩ := WT_rngI (r := (-2147483648, 2147483647)) hW id rfl ha_S
  clear hN_S
  have hF_xx := hr_xx.get hO_ro
  have hb_xx : jis V0 (.inl 34) xx := ⟨_, ha_X, rfl⟩
  obtain ⟨hN_X, hv_X⟩ := WT_rngI (r := (-2147483648, 2147483647)) hW id rfl ha_X
  clear hN_X
  have hF_yy := hr_yy.get hO_ro
  have hb_yy : jis V0 (.inl 35) yy := ⟨_, ha_Y, rfl⟩
  obtain ⟨hN_Y, hv_Y⟩ := WT_rngI (r := (-2147483648, 2147483647)) hW id rfl ha_Y
  clear hN_Y
  have hF_zz := hr_zz.get hO_ro
  have hb_zz : jis V0 (.inl 36) zz := ⟨_, ha_Z, rfl⟩
  obtain ⟨hN_Z, hv_Z⟩ := WT_rngI (r := (-2147483648, 2147483647)) hW id rfl ha_Z
  clear hN_Z
  refine J_aload_n dX6_place_0 rfl ?_
  refine J_iload_n dX6_place_1 rfl ?_
  refine Jw_callV1 (q9 := (RX6, TX6, 7)) moX6_rowOf jw_ml_X6_55 jw_im_X6_rowOf jw_se_X6_rowOf ha0 rfl rfl dX6_place_2 (w_X6_rowOf_in (d - 1) _ a0 x1 hO_a0 hF_md hF_k ha_f (by omega) (by omega) (by omega) hfo) (by omega) (Nat.zero_le _) (Nat.zero_le _) (Nat.le_of_ble_eq_true rfl) (fun r2 V2 h2 => ?_)
  obtain ⟨rfl, hE2⟩ := h2
  have hE2 := hE2.symm
  subst hE2
  · refine J_astore dX6_place_5 rfl (by decide) ?_
    refine J_aload dX6_place_7 rfl ?_
    refine J_ifnull dX6_place_9 ?_
    refine J_iload_n dX6_place_12 rfl ?_
    refine Jz_if_lt (tgt := 25) jEq.rf dX6_place_13 (by decide) (fun c13 => ?_) (fun c13 => ?_)
    · exact False.elim (by omega)
    · refine J_iload_n dX6_place_16 rfl ?_
      refine J_aload dX6_place_17 rfl ?_
      refine J_get jf_X6_69 dX6_place_19 hO_ro hF_n ?_
      refine Jz_icmp_le (tgt := 29) jEq.rf jEq.rf dX6_place_22 (by decide) (fun c22 => ?_) (fun c22 => ?_)
      · refine J_iload_n dX6_place_29 rfl ?_
        rcases jsw2 x3 with hx30 | hx30 | hx30 | hx30 | hx30
        · have hx30t : x3.toInt = 0 := by rw [hx30]; rfl
          clear hx30
          refine J_tableIn (tgt := 56) dX6_place_30 (by omega) (by omega) (by rw [hx30t]; rfl) (by decide) ?_
          refine J_aload dX6_place_56 rfl ?_
          refine J_get jf_X6_107 dX6_place_58 hO_ro hF_xx ?_
          refine J_iload_n dX6_place_61 rfl ?_
          refine J_callS2 moX6_cell jw_ml_X6_110 jw_st_X6_cell dX6_place_62 (w_X6_cell_x (d - 1) _ xx x2 ha_X (WT_rngI (r := (-2147483648, 2147483647)) hW id rfl ha_X).1 rfl (by omega) (by omega)) (by omega) (Nat.zero_le _) (Nat.zero_le _) (Nat.le_of_ble_eq_true rfl) (fun r62 V62 h62 => ?_)
          obtain ⟨⟨y62, rfl, hf62⟩, hE62⟩ := h62
          have hE62 := hE62.symm
          subst hE62
          have hz62 : jEq y62.toInt (X (x2.toInt).toNat).toInt := by rw [← hf62]; rfl
          clear hf62
          · exact J_ret (r := some (.int _)) dX6_place_65 ⟨rfl, _, rfl, rfl⟩ (⟨⟨_, rfl, (j_rng _).1, (j_rng _).2, (by (try simp only [hz62.eq, true_and, and_true]) <;> omega)⟩, rfl⟩)
        · have hx30t : x3.toInt = 1 := by rw [hx30]; rfl
          clear hx30
          refine J_tableIn (tgt := 66) dX6_place_30 (by omega) (by omega) (by rw [hx30t]; rfl) (by decide) ?_
          refine J_aload dX6_place_66 rfl ?_
          refine J_get jf_X6_114 dX6_place_68 hO_ro hF_yy ?_
          refine J_iload_n dX6_place_71 rfl ?_
          refine J_callS2 moX6_cell jw_ml_X6_110 jw_st_X6_cell dX6_place_72 (w_X6_cell_x (d - 1) _ yy x2 ha_Y (WT_rngI (r := (-2147483648, 2147483647)) hW id rfl ha_Y).1 rfl (by omega) (by omega)) (by omega) (Nat.zero_le _) (Nat.zero_le _) (Nat.le_of_ble_eq_true rfl) (fun r72 V72 h72 => ?_)
          obtain ⟨⟨y72, rfl, hf72⟩, hE72⟩ := h72
          have hE72 := hE72.symm
          subst hE72
          have hz72 : jEq y72.toInt (Y (x2.toInt).toNat).toInt := by rw [← hf72]; rfl
          clear hf72
          · exact J_ret (r := some (.int _)) dX6_place_75 ⟨rfl, _, rfl, rfl⟩ (⟨⟨_, rfl, (j_rng _).1, (j_rng _).2, (by (try simp only [hz72.eq, true_and, and_true]) <;> omega)⟩, rfl⟩)
        · have hx30t : x3.toInt = 2 := by rw [hx30]; rfl
          clear hx30
          refine J_tableIn (tgt := 76) dX6_place_30 (by omega) (by omega) (by rw [hx30t]; rfl) (by decide) ?_
          refine J_aload dX6_place_76 rfl ?_
          refine J_get jf_X6_117 dX6_place_78 hO_ro hF_zz ?_
          refine J_iload_n dX6_place_81 rfl ?_
          refine J_callS2 moX6_cell jw_ml_X6_110 jw_st_X6_cell dX6_place_82 (w_X6_cell_x (d - 1) _ zz x2 ha_Z (WT_rngI (r := (-2147483648, 2147483647)) hW id rfl ha_Z).1 rfl (by omega) (by omega)) (by omega) (Nat.zero_le _) (Nat.zero_le _) (Nat.le_of_ble_eq_true rfl) (fun r82 V82 h82 => ?_)
          obtain ⟨⟨y82, rfl, hf82⟩, hE82⟩ := h82
          have hE82 := hE82.symm
          subst hE82
          have hz82 : jEq y82.toInt (Z (x2.toInt).toNat).toInt := by rw [← hf82]; rfl
          clear hf82
          · exact J_ret (r := some (.int _)) dX6_place_85 ⟨rfl, _, rfl, rfl⟩ (⟨⟨_, rfl, (j_rng _).1, (j_rng _).2, (by (try simp only [hz82.eq, true_and, and_true]) <;> omega)⟩, rfl⟩)
        · refine J_tableOut (tgt := 86) dX6_place_30 (Or.inl hx30) (by decide) ?_
          exact False.elim (by omega)
        · refine J_tableOut (tgt := 86) dX6_place_30 (Or.inr hx30) (by decide) ?_
          exact False.elim (by omega)
      · exact False.elim (by omega)
set_option maxRecDepth 100000 in
set_option maxHeartbeats 8000000 in
theorem w_X3_digestOnto_z {tS : jTS} (d : Nat) (V0 : jH) {ln : Nat} (a0 : Nat) (x1 : Int64) (M : Int32) (g : Int32) (n : Int32) (s : Nat) (xx : Nat) (yy : Nat) (zz : Nat) (S : Nat → Int32) (X : Nat → Int32) (Y : Nat → Int32) (Z : Nat → Int32) (hd : 2 ≤ d) (hW : WT V0) (ha0 : jis V0 (.inr 1) a0) (hf_M : jfI V0 a0 1 0 M) (hf_g : jfI V0 a0 1 5 g) (hf_n : jfI V0 a0 1 6 n) (hr_s : jfR V0 a0 1 1 s) (hr_xx : jfR V0 a0 1 2 xx) (hr_yy : jfR V0 a0 1 3 yy) (hr_zz : jfR V0 a0 1 4 zz) (ha_S : V0 s = some (.inl (6, ln, .inl S))) (ha_X : V0 xx = some (.inl (34, ln + 1, .inl X))) (ha_Y : V0 yy = some (.inl (35, ln + 1, .inl Y))) (ha_Z : V0 zz = some (.inl (36, ln + 1, .inl Z))) (hp0 : M.toInt = (ln : Int)) (hp1 : (ln : Int) ≤ 120) (hp2 : n.toInt ≤ M.toInt) : jTot tS mX3_digestOnto d [.ref a0, .long x1] V0 0 0 (fun r V => (fun r _ => ∃ y : Int64, r = some (.long y) ∧ (y = jdg S n.toInt.toNat (31 * x1 + g.toInt64))) r V ∧ V = V0) := by
  refine jTot.of_J [some (.ref a0), some (.long x1), none, none, none, none] moX3_digestOnto (Nat.le_of_ble_eq_true rfl) rfl ?_
  have he : jeff [] V0 V0 := jeff.refl _ _
  obtain ⟨fs_a0, hO_a0, hK_a0⟩ := WT_obj hW id ha0
  have hF_M := hf_M.get hO_a0
  have hrM : 0 ≤ M.toInt ∧ M.toInt ≤ 120 := jok_rngI hK_a0 rfl hF_M
  have hF_g := hf_g.get hO_a0
  have hrg : (-2147483648) ≤ g.toInt ∧ g.toInt ≤ 2147483647 := jok_rngI hK_a0 rfl hF_g
  have hF_n := hf_n.get hO_a0
  have hrn : 0 ≤ n.toInt ∧ n.toInt ≤ 120 := jok_rngI hK_a0 rfl hF_n
  have hF_s := hr_s.get hO_a0
  obtain ⟨w_s, hFq_s, b_s, hbq_s, hb_s⟩ := hK_a0.2 1 (.inr (some (.inl 6))) rfl
  cases hF_s.symm.trans (hFq_s.trans (congrArg some hbq_s))
  have hF_xx := hr_xx.get hO_a0
  obtain ⟨w_xx, hFq_xx, b_xx, hbq_xx, hb_xx⟩ := hK_a0.2 2 (.inr (some (.inl 34))) rfl
  cases hF_xx.symm.trans (hFq_xx.trans (congrArg some hbq_xx))
  have hF_yy := hr_yy.get hO_a0
  obtain ⟨w_yy, hFq_yy, b_yy, hbq_yy, hb_yy⟩ := hK_a0.2 3 (.inr (some (.inl 35))) rfl
  cases hF_yy.symm.trans (hFq_yy.trans (congrArg some hbq_yy))
  have hF_zz := hr_zz.get hO_a0
  obtain ⟨w_zz, hFq_zz, b_zz, hbq_zz, hb_zz⟩ := hK_a0.2 4 (.inr (some (.inl 36))) rfl
  cases hF_zz.symm.trans (hFq_zz.trans (congrArg some hbq_zz))
  obtain ⟨hN_S, hv_S⟩ := WT_rngI (r := ((-2147483648), 2147483647)) hW id rfl ha_S
  clear hN_S
  obtain ⟨hN_X, hv_X⟩ := WT_rngI (r := ((-2147483648), 2147483647)) hW id rfl ha_X
  clear hN_X
  obtain ⟨hN_Y, hv_Y⟩ := WT_rngI (r := ((-2147483648), 2147483647)) hW id rfl ha_Y
  clear hN_Y
  obtain ⟨hN_Z, hv_Z⟩ := WT_rngI (r := ((-2147483648), 2147483647)) hW id rfl ha_Z
  clear hN_Z
  refine J_ldc2 jw_k_X3_95 dX3_digestOnto_0 ?_
  refine J_lload_n dX3_digestOnto_3 rfl ?_
  refine J_lmul dX3_digestOnto_4 ?_
  refine J_aload_n dX3_digestOnto_5 rfl ?_
  refine J_get jf_X3_9 dX3_digestOnto_6 hO_a0 hF_g ?_
  refine J_i2l dX3_digestOnto_9 rfl ?_
  refine J_ladd dX3_digestOnto_10 ?_
  refine J_lstore_n dX3_digestOnto_11 rfl (by decide) ?_
  refine Jz_iconst 0 dX3_digestOnto_12 (by decide) (fun y12 he12 => ?_)
  refine J_istore dX3_digestOnto_13 rfl (by decide) ?_
  have L15 : ∀ (N : Nat) (i3n15 : Int64) (i5n15 : Int32), (0 ≤ i5n15.toInt ∧ i5n15.toInt ≤ n.toInt) → (i3n15 = jdg S i5n15.toInt.toNat (31 * x1 + g.toInt64)) → (300 - i5n15.toInt).toNat < N → J tS mX3_digestOnto d 15 [some (.ref a0), some (.long x1), none, some (.long i3n15), none, some (.int i5n15)] [] V0 0 0 (fun r V => (fun r _ => ∃ y : Int64, r = some (.long y) ∧ (y = jdg S n.toInt.toNat (31 * x1 + g.toInt64))) r V ∧ V = V0) := by
    intro N
    induction N with
    | zero => intro i3n15 i5n15  hi5 hh hm; exact absurd hm (Nat.not_lt_zero _)
    | succ N ih =>
      intro i3n15 i5n15  hi5 hh hm
      have ih15 := ih
      have hri5 := j_rng i5n15
      refine J_iload dX3_digestOnto_15 rfl ?_
      refine J_aload_n dX3_digestOnto_17 rfl ?_
      refine J_get jf_X3_15 dX3_digestOnto_18 hO_a0 hF_n ?_
      refine Jz_icmp_ge (tgt := 44) jEq.rf jEq.rf dX3_digestOnto_21 (by decide) (fun c21 => ?_) (fun c21 => ?_)
      · refine J_lload_n dX3_digestOnto_44 rfl ?_
        exact J_ret (r := some (.long _)) dX3_digestOnto_45 ⟨rfl, rfl⟩ (⟨⟨_, rfl, (by rw [show n.toInt.toNat = i5n15.toInt.toNat by omega]; exact hh)⟩, rfl⟩)
      · refine J_ldc2 jw_k_X3_95 dX3_digestOnto_24 ?_
        refine J_lload_n dX3_digestOnto_27 rfl ?_
        refine J_lmul dX3_digestOnto_28 ?_
        refine J_aload_n dX3_digestOnto_29 rfl ?_
        refine J_iload dX3_digestOnto_30 rfl ?_
        refine Jw_callV1 (q9 := (RX3, TX3, 7)) moX3_direction jw_ml_X3_89 jw_im_X3_direction jw_se_X3_direction ha0 rfl rfl dX3_digestOnto_32 (w_X3_direction_z (d - 1) _ a0 i5n15 s S (by omega) hW  ha0 ⟨_, hO_a0, hF_s⟩ ha_S (by omega) (by omega) (by omega)) (by omega) (Nat.zero_le _) (Nat.zero_le _) (Nat.le_of_ble_eq_true rfl) (fun r32 V32 h32 => ?_)
        obtain ⟨⟨y32, rfl, hl32, hh32, hP32_0⟩, hE32⟩ := h32
        have hE32 := hE32.symm
        subst hE32
        clear hl32 hh32
        have hz32 : jEq y32.toInt ((S (i5n15.toInt).toNat).toInt) := hP32_0
        clear hP32_0
        refine J_i2l dX3_digestOnto_35 rfl ?_
        refine J_ladd dX3_digestOnto_36 ?_
        refine J_lstore_n dX3_digestOnto_37 rfl (by decide) ?_
        refine Jz_iinc 1 dX3_digestOnto_38 rfl rfl (by decide) jEq.rf (by decide) (by omega) (by omega) (fun y38 he38 => ?_)
        refine J_goto (tgt := 15) dX3_digestOnto_41 (by decide) ?_
        refine J.mask [true, true, false, true, false, true] ?_
        exact ih15  (((31 : Int64) * i3n15) + y32.toInt64) y38  (by (try simp only [he38.eq, true_and, and_true]) <;> omega) (by rw [he38.eq, show (i5n15.toInt + 1).toNat = i5n15.toInt.toNat + 1 by omega]; show _ = 31 * jdg S i5n15.toInt.toNat _ + (S i5n15.toInt.toNat).toInt64; rw [← hh, jI_inj.mp hz32.eq]) (by (try simp only [he38.eq, true_and, and_true]) <;> omega)
  refine J.mask [true, true, false, true, false, true] ?_
  exact L15 _  (((31 : Int64) * x1) + g.toInt64) y12    (by (try simp only [he12.eq, true_and, and_true]) <;> omega) (by rw [he12.eq]; rfl) (Nat.lt_succ_self _)
set_option maxRecDepth 100000 in
set_option maxHeartbeats 8000000 in
theorem w_X2_digestOnto_z {tS : jTS} (d : Nat) (V0 : jH) (a0 : Nat) (x1 : Int64) (w1 : Int32) (h1 : Int32) (op : Int64) (hd : 3 ≤ d) (hW : WT V0) (ha0 : jis V0 (.inr 0) a0) (hf_w1 : jfI V0 a0 0 1 w1) (hf_h1 : jfI V0 a0 0 2 h1) (hq_op : jfL V0 a0 0 3 op) (hp0 : 2 ≤ w1.toInt) (hp1 : w1.toInt ≤ 6) (hp2 : 2 ≤ h1.toInt) (hp3 : h1.toInt ≤ 6) : jTot tS mX2_digestOnto d [.ref a0, .long x1] V0 0 0 (fun r V => (fun r _ => ∃ y : Int64, r = some (.long y) ∧ (y = jdh (fun q : Nat => !jbt op (9 + q % w1.toInt.toNat + 8 * (q / w1.toInt.toNat))) (w1.toInt.toNat * h1.toInt.toNat) x1)) r V ∧ V = V0) := by
  refine jTot.of_J [some (.ref a0), some (.long x1), none, none, none, none, none] moX2_digestOnto (Nat.le_of_ble_eq_true rfl) rfl ?_
  have he : jeff [] V0 V0 := jeff.refl _ _
  obtain ⟨fs_a0, hO_a0, hK_a0⟩ := WT_obj hW id ha0
  have hF_w1 := hf_w1.get hO_a0
  have hrw1 : (-2147483648) ≤ w1.toInt ∧ w1.toInt ≤ 2147483647 := jok_rngI hK_a0 rfl hF_w1
  have hF_h1 := hf_h1.get hO_a0
  have hrh1 : (-2147483648) ≤ h1.toInt ∧ h1.toInt ≤ 2147483647 := jok_rngI hK_a0 rfl hF_h1
  have hF_op := hq_op.get hO_a0
  refine J_lload_n dX2_digestOnto_0 rfl ?_
  refine J_lstore_n dX2_digestOnto_1 rfl (by decide) ?_
  refine Jz_iconst 0 dX2_digestOnto_2 (by decide) (fun y2 he2 => ?_)
  refine J_istore dX2_digestOnto_3 rfl (by decide) ?_
  have L5 : ∀ (N : Nat) (i3n5 : Int64) (i5n5 : Int32), (0 ≤ i5n5.toInt ∧ i5n5.toInt ≤ h1.toInt) → (i3n5 = jdh (fun q : Nat => !jbt op (9 + q % w1.toInt.toNat + 8 * (q / w1.toInt.toNat))) (w1.toInt.toNat * i5n5.toInt.toNat) x1) → (300 - i5n5.toInt).toNat < N → J tS mX2_digestOnto d 5 [some (.ref a0), some (.long x1), none, some (.long i3n5), none, some (.int i5n5), none] [] V0 0 0 (fun r V => (fun r _ => ∃ y : Int64, r = some (.long y) ∧ (y = jdh (fun q : Nat => !jbt op (9 + q % w1.toInt.toNat + 8 * (q / w1.toInt.toNat))) (w1.toInt.toNat * h1.toInt.toNat) x1)) r V ∧ V = V0) := by
    intro N
    induction N with
    | zero => intro i3n5 i5n5  hi5 hh hm; exact absurd hm (Nat.not_lt_zero _)
    | succ N ih =>
      intro i3n5 i5n5  hi5 hh hm
      have ih5 := ih
      have hri5 := j_rng i5n5
      refine J_iload dX2_digestOnto_5 rfl ?_
      refine J_aload_n dX2_digestOnto_7 rfl ?_
      refine J_get jf_X2_19 dX2_digestOnto_8 hO_a0 hF_h1 ?_
      refine Jz_icmp_ge (tgt := 67) jEq.rf jEq.rf dX2_digestOnto_11 (by decide) (fun c11 => ?_) (fun c11 => ?_)
      · refine J_lload_n dX2_digestOnto_67 rfl ?_
        exact J_ret (r := some (.long _)) dX2_digestOnto_68 ⟨rfl, rfl⟩ (⟨⟨_, rfl, (by rw [show h1.toInt.toNat = i5n5.toInt.toNat by omega]; exact hh)⟩, rfl⟩)
      · refine Jz_iconst 0 dX2_digestOnto_14 (by decide) (fun y14 he14 => ?_)
        refine J_istore dX2_digestOnto_15 rfl (by decide) ?_
        have L17 : ∀ (N : Nat) (i3n17 : Int64) (i6n17 : Int32), (0 ≤ i6n17.toInt ∧ i6n17.toInt ≤ w1.toInt) → (i3n17 = jdh (fun q : Nat => !jbt op (9 + q % w1.toInt.toNat + 8 * (q / w1.toInt.toNat))) (w1.toInt.toNat * i5n5.toInt.toNat + i6n17.toInt.toNat) x1) → (300 - i6n17.toInt).toNat < N → J tS mX2_digestOnto d 17 [some (.ref a0), some (.long x1), none, some (.long i3n17), none, some (.int i5n5), some (.int i6n17)] [] V0 0 0 (fun r V => (fun r _ => ∃ y : Int64, r = some (.long y) ∧ (y = jdh (fun q : Nat => !jbt op (9 + q % w1.toInt.toNat + 8 * (q / w1.toInt.toNat))) (w1.toInt.toNat * h1.toInt.toNat) x1)) r V ∧ V = V0) := by
          intro N
          induction N with
          | zero => intro i3n17 i6n17  hi6 hh6 hm; exact absurd hm (Nat.not_lt_zero _)
          | succ N ih =>
            intro i3n17 i6n17  hi6 hh6 hm
            have ih17 := ih
            have hri6 := j_rng i6n17
            refine J_iload dX2_digestOnto_17 rfl ?_
            refine J_aload_n dX2_digestOnto_19 rfl ?_
            refine J_get jf_X2_15 dX2_digestOnto_20 hO_a0 hF_w1 ?_
            refine Jz_icmp_ge (tgt := 61) jEq.rf jEq.rf dX2_digestOnto_23 (by decide) (fun c23 => ?_) (fun c23 => ?_)
            · refine Jz_iinc 1 dX2_digestOnto_61 rfl rfl (by decide) jEq.rf (by decide) (by omega) (by omega) (fun y61 he61 => ?_)
              refine J_goto (tgt := 5) dX2_digestOnto_64 (by decide) ?_
              refine J.mask [true, true, false, true, false, true, false] ?_
              exact ih5  i3n17 y61  (by (try simp only [he61.eq, true_and, and_true]) <;> omega) (by rw [he61.eq, show (i5n5.toInt + 1).toNat = i5n5.toInt.toNat + 1 by omega, Nat.mul_add, Nat.mul_one, show w1.toInt.toNat = i6n17.toInt.toNat by omega] ; rw [show i6n17.toInt.toNat = w1.toInt.toNat by omega] ; rw [show w1.toInt.toNat * i5n5.toInt.toNat + w1.toInt.toNat = w1.toInt.toNat * i5n5.toInt.toNat + i6n17.toInt.toNat by omega]; exact hh6) (by (try simp only [he61.eq, true_and, and_true]) <;> omega)
            · refine J_aload_n dX2_digestOnto_26 rfl ?_
              refine J_iload dX2_digestOnto_27 rfl ?_
              refine J_iload dX2_digestOnto_29 rfl ?_
              refine Jw_callV2 (q9 := (RX2, TX2, 9)) moX2_isHole jw_ml_X2_79 jw_im_X2_isHole jw_se_X2_isHole ha0 rfl rfl dX2_digestOnto_31 (w_X2_isHole_z (d - 1) _ a0 i6n17 i5n5 op (by omega) hW  ha0 ⟨_, hO_a0, hF_op⟩ (by omega) (by omega) (by omega) (by omega)) (by omega) (Nat.zero_le _) (Nat.zero_le _) (Nat.le_of_ble_eq_true rfl) (fun r31 V31 h31 => ?_)
              obtain ⟨⟨y31, rfl, hl31, hh31, hI31_0, hI31_1⟩, hE31⟩ := h31
              have hE31 := hE31.symm
              subst hE31
              have hdm := jdivmod (w := w1.toInt.toNat) (x := i6n17.toInt.toNat) (y := i5n5.toInt.toNat) (by omega)
              have hnx : 9 + i6n17.toInt.toNat + 8 * i5n5.toInt.toNat = (9 + i6n17.toInt + 8 * i5n5.toInt).toNat := by omega
              have hml := Nat.mul_le_mul (show w1.toInt.toNat ≤ 6 by omega) (show i5n5.toInt.toNat ≤ 5 by omega)
              have hmc := jcell_nat2 (w := w1.toInt) (y := i5n5.toInt) (by omega) (by omega)
              refine Jz_if_eq (tgt := 55) jEq.rf dX2_digestOnto_34 (by decide) (fun c34 => ?_) (fun c34 => ?_)
              · have q34_1 := hI31_1.of (by omega)
                refine Jz_iinc 1 dX2_digestOnto_55 rfl rfl (by decide) jEq.rf (by decide) (by omega) (by omega) (fun y55 he55 => ?_)
                refine J_goto (tgt := 17) dX2_digestOnto_58 (by decide) ?_
                refine J.mask [true, true, false, true, false, true, true] ?_
                exact ih17  i3n17 y55  (by (try simp only [he55.eq, true_and, and_true]) <;> omega) (by rw [he55.eq, show (i6n17.toInt + 1).toNat = i6n17.toInt.toNat + 1 by omega, ← Nat.add_assoc, jdh_no (by rw [hdm.1, hdm.2, hnx, hI31_1.of (by omega)]; rfl)]; exact hh6) (by (try simp only [he55.eq, true_and, and_true]) <;> omega)
              · have q34_0 := hI31_0.of (by omega)
                refine J_ldc2 jw_k_X2_83 dX2_digestOnto_37 ?_
                refine J_lload_n dX2_digestOnto_40 rfl ?_
                refine J_lmul dX2_digestOnto_41 ?_
                refine J_iload dX2_digestOnto_42 rfl ?_
                refine J_aload_n dX2_digestOnto_44 rfl ?_
                refine J_get jf_X2_15 dX2_digestOnto_45 hO_a0 hF_w1 ?_
                refine J_iload dX2_digestOnto_48 rfl ?_
                refine Jz_imul jEq.rf jEq.rf dX2_digestOnto_50 (by omega) (by omega) (fun y50 he50 => ?_)
                refine Jz_iadd jEq.rf he50 dX2_digestOnto_51 (by omega) (by omega) (fun y51 he51 => ?_)
                refine J_i2l dX2_digestOnto_52 rfl ?_
                refine J_ladd dX2_digestOnto_53 ?_
                refine J_lstore_n dX2_digestOnto_54 rfl (by decide) ?_
                refine Jz_iinc 1 dX2_digestOnto_55 rfl rfl (by decide) jEq.rf (by decide) (by omega) (by omega) (fun y55 he55 => ?_)
                refine J_goto (tgt := 17) dX2_digestOnto_58 (by decide) ?_
                refine J.mask [true, true, false, true, false, true, true] ?_
                exact ih17  (((31 : Int64) * i3n17) + y51.toInt64) y55  (by (try simp only [he55.eq, true_and, and_true]) <;> omega) (by rw [he55.eq, show (i6n17.toInt + 1).toNat = i6n17.toInt.toNat + 1 by omega, ← Nat.add_assoc, jdh_yes (v := y51) (by rw [hdm.1, hdm.2, hnx, hI31_0.of (by omega)]; rfl) (by rw [he51.eq]; push_cast; omega) (by omega), ← hh6]) (by (try simp only [he55.eq, true_and, and_true]) <;> omega)
        refine J.mask [true, true, false, true, false, true, true] ?_
        exact L17 _  i3n5 y14    (by (try simp only [he14.eq, true_and, and_true]) <;> omega) (by rw [he14.eq]; exact hh) (Nat.lt_succ_self _)
  refine J.mask [true, true, false, true, false, true, false] ?_
  exact L5 _  x1 y2    (by (try simp only [he2.eq, true_and, and_true]) <;> omega) (by rw [he2.eq]; rfl) (Nat.lt_succ_self _)
set_option maxRecDepth 100000 in
set_option maxHeartbeats 8000000 in
theorem w_X6_digest_z {tS : jTS} (d : Nat) (V0 : jH) (a0 : Nat) (v1 : Int32) (md : Nat) (pl : Nat) (pw : Int32) (ph : Int32) (po : Int64) (f : Nat → Option Nat) (A : Nat → jad) (GA : Nat → Int32) (MN : Nat → Int32) (SP : Nat → Int32) (cn : Int32) (hd : 4 ≤ d) (hW : WT V0) (ha0 : jis V0 (.inr 4) a0) (hf_v1 : jfI V0 a0 4 1 v1) (hr_md : jfR V0 a0 4 0 md) (hr_pl : jfR V0 a0 4 6 pl) (hpw : jfI V0 pl 0 1 pw) (hph : jfI V0 pl 0 2 ph) (hpo : jfL V0 pl 0 3 po) (ha_f : V0 md = some (.inl (4, 16, .inr (.inr (.inr (.inr f)))))) (hrows : ∀ w : Nat, (w : Int) < v1.toInt → jrow1 V0 f A GA MN SP w) (hp0 : 2 ≤ pw.toInt) (hp1 : pw.toInt ≤ 6) (hp2 : 2 ≤ ph.toInt) (hp3 : ph.toInt ≤ 6) (hp4 : cn.toInt = ((jsum (fun n => (jbt po n).toNat) 64 : Nat) : Int)) : jTot tS mX6_digest d [.ref a0] V0 0 0 (fun r V => (fun r _ => ∃ y : Int64, r = some (.long y) ∧ (y = jdh (fun q : Nat => !jbt po (9 + q % pw.toInt.toNat + 8 * (q / pw.toInt.toNat))) (pw.toInt.toNat * ph.toInt.toNat) (jdw GA MN SP v1.toInt.toNat (jdg (jC4 v1 cn pw ph) 4 107)))) r V ∧ V = V0) := by
  refine jTot.of_J [some (.ref a0), none, none, none, none] moX6_digest (Nat.le_of_ble_eq_true rfl) rfl ?_
  have he : jeff [] V0 V0 := jeff.refl _ _
  obtain ⟨fs_a0, hO_a0, hK_a0⟩ := WT_obj hW id ha0
  have hF_v1 := hf_v1.get hO_a0
  have hrv1 : 0 ≤ v1.toInt ∧ v1.toInt ≤ 16 := jok_rngI hK_a0 rfl hF_v1
  have hF_md := hr_md.get hO_a0
  obtain ⟨w_md, hFq_md, b_md, hbq_md, hb_md⟩ := hK_a0.2 0 (.inr (some (.inl 4))) rfl
  cases hF_md.symm.trans (hFq_md.trans (congrArg some hbq_md))
  have hF_pl := hr_pl.get hO_a0
  obtain ⟨w_pl, hFq_pl, b_pl, hbq_pl, hb_pl⟩ := hK_a0.2 6 (.inr (some (.inr 0))) rfl
  cases hF_pl.symm.trans (hFq_pl.trans (congrArg some hbq_pl))
  obtain ⟨fsp, hOp, hKp⟩ := WT_obj hW id hb_pl
  have hFpw := hpw.get hOp
  have hFph := hph.get hOp
  have hFpo := hpo.get hOp
  refine J_ldc2 jw_k_X6_244 dX6_digest_0 ?_
  refine J_lstore_n dX6_digest_3 rfl (by decide) ?_
  refine Jz_iconst 0 dX6_digest_4 (by decide) (fun y4 he4 => ?_)
  refine J_istore_n dX6_digest_5 rfl (by decide) ?_
  have L6 : ∀ (N : Nat) (i1n6 : Int64) (i3n6 : Int32), (0 ≤ i3n6.toInt ∧ i3n6.toInt ≤ 4) → (i1n6 = jdg (jC4 v1 cn pw ph) i3n6.toInt.toNat 107) → (300 - i3n6.toInt).toNat < N → J tS mX6_digest d 6 [some (.ref a0), some (.long i1n6), none, some (.int i3n6), none] [] V0 0 0 (fun r V => (fun r _ => ∃ y : Int64, r = some (.long y) ∧ (y = jdh (fun q : Nat => !jbt po (9 + q % pw.toInt.toNat + 8 * (q / pw.toInt.toNat))) (pw.toInt.toNat * ph.toInt.toNat) (jdw GA MN SP v1.toInt.toNat (jdg (jC4 v1 cn pw ph) 4 107)))) r V ∧ V = V0) := by
    intro N
    induction N with
    | zero => intro i1n6 i3n6  hi3 hh hm; exact absurd hm (Nat.not_lt_zero _)
    | succ N ih =>
      intro i1n6 i3n6  hi3 hh hm
      have ih6 := ih
      have hri3 := j_rng i3n6
      refine J_iload_n dX6_digest_6 rfl ?_
      refine Jz_iconst 4 dX6_digest_7 (by decide) (fun y7 he7 => ?_)
      refine Jz_icmp_ge (tgt := 30) jEq.rf he7 dX6_digest_8 (by decide) (fun c8 => ?_) (fun c8 => ?_)
      · refine Jz_iconst 0 dX6_digest_30 (by decide) (fun y30 he30 => ?_)
        refine J_istore_n dX6_digest_31 rfl (by decide) ?_
        have L32 : ∀ (N : Nat) (i1n32 : Int64) (i3n32 : Int32), (0 ≤ i3n32.toInt ∧ i3n32.toInt ≤ v1.toInt) → (i1n32 = jdw GA MN SP i3n32.toInt.toNat (jdg (jC4 v1 cn pw ph) 4 107)) → (300 - i3n32.toInt).toNat < N → J tS mX6_digest d 32 [some (.ref a0), some (.long i1n32), none, some (.int i3n32), none] [] V0 0 0 (fun r V => (fun r _ => ∃ y : Int64, r = some (.long y) ∧ (y = jdh (fun q : Nat => !jbt po (9 + q % pw.toInt.toNat + 8 * (q / pw.toInt.toNat))) (pw.toInt.toNat * ph.toInt.toNat) (jdw GA MN SP v1.toInt.toNat (jdg (jC4 v1 cn pw ph) 4 107)))) r V ∧ V = V0) := by
          intro N
          induction N with
          | zero => intro i1n32 i3n32  hi3b hh2 hm; exact absurd hm (Nat.not_lt_zero _)
          | succ N ih =>
            intro i1n32 i3n32  hi3b hh2 hm
            have ih32 := ih
            have hri3 := j_rng i3n32
            refine J_iload_n dX6_digest_32 rfl ?_
            refine J_aload_n dX6_digest_33 rfl ?_
            refine J_get jf_X6_15 dX6_digest_34 hO_a0 hF_v1 ?_
            refine Jz_icmp_ge (tgt := 65) jEq.rf jEq.rf dX6_digest_37 (by decide) (fun c37 => ?_) (fun c37 => ?_)
            · refine J_aload_n dX6_digest_65 rfl ?_
              refine J_get jf_X6_42 dX6_digest_66 hO_a0 hF_pl ?_
              refine J_lload_n dX6_digest_69 rfl ?_
              refine Jw_callV1 (q9 := (RX2, TX2, 9)) moX2_digestOnto jw_ml_X6_255 jw_im_X2_digestOnto jw_se_X2_digestOnto hb_pl rfl rfl dX6_digest_70 (w_X2_digestOnto_z (d - 1) _ pl i1n32 pw ph po (by omega) hW  hb_pl ⟨_, hOp, hFpw⟩ ⟨_, hOp, hFph⟩ ⟨_, hOp, hFpo⟩ (by omega) (by omega) (by omega) (by omega)) (by omega) (Nat.zero_le _) (Nat.zero_le _) (Nat.le_of_ble_eq_true rfl) (fun r70 V70 h70 => ?_)
              obtain ⟨⟨y70, rfl, hP70_0⟩, hE70⟩ := h70
              have hE70 := hE70.symm
              subst hE70
              exact J_ret (r := some (.long _)) dX6_digest_73 ⟨rfl, rfl⟩ (⟨⟨_, rfl, (by rw [hP70_0, hh2, show v1.toInt.toNat = i3n32.toInt.toNat by omega])⟩, rfl⟩)
            · refine J_aload_n dX6_digest_40 rfl ?_
              refine J_iload_n dX6_digest_41 rfl ?_
              obtain ⟨S9, X9, Y9, Z9, hfo9, hrw9, hwv9⟩ := hrows i3n32.toInt.toNat (by omega)
              obtain ⟨⟨M9, m9, e9⟩, ⟨g9, gg9, eg9⟩, ⟨n9, nn9, en9⟩, t1, t2, t3, t4, u1, u2, u3, u4⟩ := hrw9
              have hn9 := hwv9.2.1
              have hb9 : jis V0 (.inr 1) (A i3n32.toInt.toNat).1 := by obtain ⟨q1, q2, q3⟩ := m9; exact ⟨_, q2, rfl⟩
              refine Jw_callV1 (q9 := (RX6, TX6, 7)) moX6_rowOf jw_ml_X6_55 jw_im_X6_rowOf jw_se_X6_rowOf ha0 rfl rfl dX6_digest_42 (w_X6_rowOf_in (d - 1) _ a0 i3n32 hO_a0 hF_md hF_v1 ha_f (by omega) (by omega) (by omega) hfo9) (by omega) (Nat.zero_le _) (Nat.zero_le _) (Nat.le_of_ble_eq_true rfl) (fun r42 V42 h42 => ?_)
              obtain ⟨rfl, hE42⟩ := h42
              have hE42 := hE42.symm
              subst hE42
              · refine J_astore dX6_digest_45 rfl (by decide) ?_
                refine J_aload dX6_digest_47 rfl ?_
                refine J_ifnull dX6_digest_49 ?_
                refine J_aload dX6_digest_52 rfl ?_
                refine J_lload_n dX6_digest_54 rfl ?_
                refine Jw_callV1 (q9 := (RX3, TX3, 7)) moX3_digestOnto jw_ml_X6_251 jw_im_X3_digestOnto jw_se_X3_digestOnto hb9 rfl rfl dX6_digest_55 (w_X3_digestOnto_z (d - 1) _ (A i3n32.toInt.toNat).1 i1n32 M9 g9 n9 _ _ _ _ S9 X9 Y9 Z9 (by omega) hW hb9 m9 gg9 nn9 t1 t2 t3 t4 u1 u2 u3 u4 e9 (by decide) (by omega)) (by omega) (Nat.zero_le _) (Nat.zero_le _) (Nat.le_of_ble_eq_true rfl) (fun r55 V55 h55 => ?_)
                obtain ⟨⟨y55, rfl, hP55_0⟩, hE55⟩ := h55
                have hE55 := hE55.symm
                subst hE55
                · refine J_lstore_n dX6_digest_58 rfl (by decide) ?_
                  refine Jz_iinc 1 dX6_digest_59 rfl rfl (by decide) jEq.rf (by decide) (by omega) (by omega) (fun y59 he59 => ?_)
                  refine J_goto (tgt := 32) dX6_digest_62 (by decide) ?_
                  refine J.mask [true, true, false, true, false] ?_
                  exact ih32  y55 y59  (by (try simp only [he59.eq, true_and, and_true]) <;> omega) (by rw [he59.eq, show (i3n32.toInt + 1).toNat = i3n32.toInt.toNat + 1 by omega]; show _ = jdg _ (MN i3n32.toInt.toNat).toInt.toNat _; rw [hP55_0, hh2, jI_inj.mp eg9, jI_inj.mp en9]; exact jdg_congr _ _ (fun j hj => jI_inj.mp ((hwv9.2.2.1 j (by omega)).1))) (by (try simp only [he59.eq, true_and, and_true]) <;> omega)
        refine J.mask [true, true, false, true, false] ?_
        exact L32 _  i1n6 y30    (by (try simp only [he30.eq, true_and, and_true]) <;> omega) (by rw [he30.eq]; have e : i3n6.toInt.toNat = 4 := (by omega); rw [e] at hh; exact hh) (Nat.lt_succ_self _)
      · refine J_ldc2 jw_k_X6_246 dX6_digest_11 ?_
        refine J_lload_n dX6_digest_14 rfl ?_
        refine J_lmul dX6_digest_15 ?_
        refine J_aload_n dX6_digest_16 rfl ?_
        refine J_iload_n dX6_digest_17 rfl ?_
        refine Jw_callV1 (q9 := (RX6, TX6, 7)) moX6_count jw_ml_X6_248 jw_im_X6_count jw_se_X6_count ha0 rfl rfl dX6_digest_18 (w_X6_count_z (d - 1) _ a0 i3n6 v1 pl pw ph po (by omega) hW  ha0 ⟨_, hO_a0, hF_v1⟩ ⟨_, hO_a0, hF_pl⟩ hpw hph hpo) (by omega) (Nat.zero_le _) (Nat.zero_le _) (Nat.le_of_ble_eq_true rfl) (fun r18 V18 h18 => ?_)
        obtain ⟨⟨y18, rfl, hl18, hh18, hP18_0⟩, hE18⟩ := h18
        have hE18 := hE18.symm
        subst hE18
        clear hl18 hh18
        have hcf : (jC4 v1 cn pw ph i3n6.toInt.toNat).toInt = y18.toInt := by unfold jC4; (repeat' split) <;> omega
        refine J_i2l dX6_digest_21 rfl ?_
        refine J_ladd dX6_digest_22 ?_
        refine J_lstore_n dX6_digest_23 rfl (by decide) ?_
        refine Jz_iinc 1 dX6_digest_24 rfl rfl (by decide) jEq.rf (by decide) (by omega) (by omega) (fun y24 he24 => ?_)
        refine J_goto (tgt := 6) dX6_digest_27 (by decide) ?_
        refine J.mask [true, true, false, true, false] ?_
        exact ih6  (((31 : Int64) * i1n6) + y18.toInt64) y24  (by (try simp only [he24.eq, true_and, and_true]) <;> omega) (by rw [he24.eq, show (i3n6.toInt + 1).toNat = i3n6.toInt.toNat + 1 by omega]; show _ = 31 * jdg (jC4 v1 cn pw ph) i3n6.toInt.toNat 107 + (jC4 v1 cn pw ph i3n6.toInt.toNat).toInt64; rw [← hh, jI_inj.mp hcf]) (by (try simp only [he24.eq, true_and, and_true]) <;> omega)
  refine J.mask [true, true, false, true, false] ?_
  exact L6 _  (107 : Int64) y4    (by (try simp only [he4.eq, true_and, and_true]) <;> omega) (by rw [he4.eq]; rfl) (Nat.lt_succ_self _)
set_option maxRecDepth 100000 in
set_option maxHeartbeats 8000000 in
theorem w_X1_turnedStep_z {tS : jTS} (d : Nat) (V0 : jH) {ln : Nat} (a0 : Nat) (x1 : Int32) (x2 : Int32) (x3 : Int32) (M : Int32) (g : Int32) (n : Int32) (s : Nat) (xx : Nat) (yy : Nat) (zz : Nat) (S : Nat → Int32) (X : Nat → Int32) (Y : Nat → Int32) (Z : Nat → Int32) (hd : 2 ≤ d) (hW : WT V0) (ha0 : jis V0 (.inr 1) a0) (hl2 : 0 ≤ x2.toInt) (hh2 : x2.toInt ≤ 1) (hf_M : jfI V0 a0 1 0 M) (hf_g : jfI V0 a0 1 5 g) (hf_n : jfI V0 a0 1 6 n) (hr_s : jfR V0 a0 1 1 s) (hr_xx : jfR V0 a0 1 2 xx) (hr_yy : jfR V0 a0 1 3 yy) (hr_zz : jfR V0 a0 1 4 zz) (ha_S : V0 s = some (.inl (6, ln, .inl S))) (ha_X : V0 xx = some (.inl (34, ln + 1, .inl X))) (ha_Y : V0 yy = some (.inl (35, ln + 1, .inl Y))) (ha_Z : V0 zz = some (.inl (36, ln + 1, .inl Z))) (hp0 : M.toInt = (ln : Int)) (hp1 : (ln : Int) ≤ 120) (hp2 : n.toInt ≤ M.toInt) (hp3 : 0 ≤ g.toInt) (hp4 : g.toInt ≤ 3) (hp5 : 0 ≤ x1.toInt) (hp6 : x1.toInt < jtur g.toInt) (hp7 : ∀ j : Nat, (j : Int) < n.toInt → 0 ≤ (S j).toInt ∧ (S j).toInt < jdir g.toInt) (hp8 : 0 ≤ x3.toInt) (hp9 : x3.toInt < n.toInt) : jTot tS mX1_turnedStep d [.ref a0, .int x1, .int x2, .int x3] V0 0 0 (fun r V => (fun r _ => ∃ y : Int32, r = some (.int y) ∧ ((-2147483648) ≤ y.toInt) ∧ (y.toInt ≤ 2147483647) ∧ (y.toInt = (jim g.toInt (fun q => (S q).toInt) n.toInt.toNat x1.toInt (decide (x2.toInt = 1)) x3.toInt.toNat))) r V ∧ V = V0) := by
  refine jTot.of_J [some (.ref a0), some (.int x1), some (.int x2), some (.int x3), none] moX1_turnedStep (Nat.le_of_ble_eq_true rfl) rfl ?_
  have hrx1 := j_rng x1
  have hrx3 := j_rng x3
  have he : jeff [] V0 V0 := jeff.refl _ _
  obtain ⟨fs_a0, hO_a0, hK_a0⟩ := WT_obj hW id ha0
  have hF_M := hf_M.get hO_a0
  have hrM : 0 ≤ M.toInt ∧ M.toInt ≤ 120 := jok_rngI hK_a0 rfl hF_M
  have hF_g := hf_g.get hO_a0
  have hrg : (-2147483648) ≤ g.toInt ∧ g.toInt ≤ 2147483647 := jok_rngI hK_a0 rfl hF_g
  have hF_n := hf_n.get hO_a0
  have hrn : 0 ≤ n.toInt ∧ n.toInt ≤ 120 := jok_rngI hK_a0 rfl hF_n
  have hF_s := hr_s.get hO_a0
  obtain ⟨w_s, hFq_s, b_s, hbq_s, hb_s⟩ := hK_a0.2 1 (.inr (some (.inl 6))) rfl
  cases hF_s.symm.trans (hFq_s.trans (congrArg some hbq_s))
  have hF_xx := hr_xx.get hO_a0
  obtain ⟨w_xx, hFq_xx, b_xx, hbq_xx, hb_xx⟩ := hK_a0.2 2 (.inr (some (.inl 34))) rfl
  cases hF_xx.symm.trans (hFq_xx.trans (congrArg some hbq_xx))
  have hF_yy := hr_yy.get hO_a0
  obtain ⟨w_yy, hFq_yy, b_yy, hbq_yy, hb_yy⟩ := hK_a0.2 3 (.inr (some (.inl 35))) rfl
  cases hF_yy.symm.trans (hFq_yy.trans (congrArg some hbq_yy))
  have hF_zz := hr_zz.get hO_a0
  obtain ⟨w_zz, hFq_zz, b_zz, hbq_zz, hb_zz⟩ := hK_a0.2 4 (.inr (some (.inl 36))) rfl
  cases hF_zz.symm.trans (hFq_zz.trans (congrArg some hbq_zz))
  obtain ⟨hN_S, hv_S⟩ := WT_rngI (r := ((-2147483648), 2147483647)) hW id rfl ha_S
  clear hN_S
  obtain ⟨hN_X, hv_X⟩ := WT_rngI (r := ((-2147483648), 2147483647)) hW id rfl ha_X
  clear hN_X
  obtain ⟨hN_Y, hv_Y⟩ := WT_rngI (r := ((-2147483648), 2147483647)) hW id rfl ha_Y
  clear hN_Y
  obtain ⟨hN_Z, hv_Z⟩ := WT_rngI (r := ((-2147483648), 2147483647)) hW id rfl ha_Z
  clear hN_Z
  have hjd := jdir_cases g.toInt
  refine J_iload_n dX1_turnedStep_0 rfl ?_
  refine Jz_if_eq (tgt := 26) jEq.rf dX1_turnedStep_1 (by decide) (fun c1 => ?_) (fun c1 => ?_)
  · refine J_aload_n dX1_turnedStep_26 rfl ?_
    refine J_iload_n dX1_turnedStep_27 rfl ?_
    refine Jw_callV1 (q9 := (RX3, TX3, 7)) moX3_direction jw_ml_X1_15 jw_im_X3_direction jw_se_X3_direction ha0 rfl rfl dX1_turnedStep_28 (w_X3_direction_z (d - 1) _ a0 x3 s S (by omega) hW  ha0 ⟨_, hO_a0, hF_s⟩ ha_S (by omega) (by omega) (by omega)) (by omega) (Nat.zero_le _) (Nat.zero_le _) (Nat.le_of_ble_eq_true rfl) (fun r28 V28 h28 => ?_)
    obtain ⟨⟨y28, rfl, hl28, hh28, hP28_0⟩, hE28⟩ := h28
    have hE28 := hE28.symm
    subst hE28
    clear hl28 hh28
    have hz28 : jEq y28.toInt ((S (x3.toInt).toNat).toInt) := hP28_0
    clear hP28_0
    have hsd := hp7 x3.toInt.toNat (by omega)
    refine J_istore dX1_turnedStep_31 rfl (by decide) ?_
    refine J_aload_n dX1_turnedStep_33 rfl ?_
    refine J_get jf_X1_23 dX1_turnedStep_34 hO_a0 hF_g ?_
    refine J_iload_n dX1_turnedStep_37 rfl ?_
    refine J_iload dX1_turnedStep_38 rfl ?_
    refine J_callS3 moX0_turned jw_ml_X1_49 jw_st_X0_turned dX1_turnedStep_40 (w_X0_turned_z (d - 1) _ g x1 y28 (by omega)   (by omega) (by omega) (by omega) (by omega) (by (try simp only [hz28.eq, true_and, and_true]) <;> omega) (by (try simp only [hz28.eq, true_and, and_true]) <;> omega)) (by omega) (Nat.zero_le _) (Nat.zero_le _) (Nat.le_of_ble_eq_true rfl) (fun r40 V40 h40 => ?_)
    obtain ⟨⟨y40, rfl, hl40, hh40, hP40_0⟩, hE40⟩ := h40
    have hE40 := hE40.symm
    subst hE40
    clear hl40 hh40
    try simp only [hz28.eq] at hP40_0
    have hz40 : jEq y40.toInt (jtn (g.toInt) (x1.toInt) ((S (x3.toInt).toNat).toInt)) := hP40_0
    clear hP40_0
    exact J_ret (r := some (.int _)) dX1_turnedStep_43 ⟨rfl, _, rfl, rfl⟩ (⟨⟨_, rfl, (j_rng _).1, (j_rng _).2, (by rw [hz40.eq]; unfold jim; first | (rw [show decide (x2.toInt = 1) = true from decide_eq_true (by omega)]; (show jtn _ _ _ = jtn _ _ (jopp _ (S _).toInt)); rw [show (n.toInt - 1 - x3.toInt).toNat = n.toInt.toNat - 1 - x3.toInt.toNat by omega]) | (rw [show decide (x2.toInt = 1) = false from decide_eq_false (by omega)]; rfl))⟩, rfl⟩)
  · refine J_aload_n dX1_turnedStep_4 rfl ?_
    refine J_get jf_X1_23 dX1_turnedStep_5 hO_a0 hF_g ?_
    refine J_aload_n dX1_turnedStep_8 rfl ?_
    refine J_aload_n dX1_turnedStep_9 rfl ?_
    refine J_get jf_X1_9 dX1_turnedStep_10 hO_a0 hF_n ?_
    refine Jz_iconst 1 dX1_turnedStep_13 (by decide) (fun y13 he13 => ?_)
    refine Jz_isub jEq.rf he13 dX1_turnedStep_14 (by omega) (by omega) (fun y14 he14 => ?_)
    refine J_iload_n dX1_turnedStep_15 rfl ?_
    refine Jz_isub he14 jEq.rf dX1_turnedStep_16 (by omega) (by omega) (fun y16 he16 => ?_)
    refine Jw_callV1 (q9 := (RX3, TX3, 7)) moX3_direction jw_ml_X1_15 jw_im_X3_direction jw_se_X3_direction ha0 rfl rfl dX1_turnedStep_17 (w_X3_direction_z (d - 1) _ a0 y16 s S (by omega) hW  ha0 ⟨_, hO_a0, hF_s⟩ ha_S (by (try simp only [he16.eq, true_and, and_true]) <;> omega) (by (try simp only [he16.eq, true_and, and_true]) <;> omega) (by omega)) (by omega) (Nat.zero_le _) (Nat.zero_le _) (Nat.le_of_ble_eq_true rfl) (fun r17 V17 h17 => ?_)
    obtain ⟨⟨y17, rfl, hl17, hh17, hP17_0⟩, hE17⟩ := h17
    have hE17 := hE17.symm
    subst hE17
    clear hl17 hh17
    try simp only [he16.eq] at hP17_0
    have hz17 : jEq y17.toInt ((S (n.toInt - 1 - x3.toInt).toNat).toInt) := hP17_0
    clear hP17_0
    have hsd := hp7 (n.toInt - 1 - x3.toInt).toNat (by omega)
    refine J_callS2 moX0_opposite jw_ml_X1_45 jw_st_X0_opposite dX1_turnedStep_20 (w_X0_opposite_z (d - 1) _ g y17 (by omega)   (by omega) (by omega) (by (try simp only [hz17.eq, true_and, and_true]) <;> omega) (by (try simp only [hz17.eq, true_and, and_true]) <;> omega)) (by omega) (Nat.zero_le _) (Nat.zero_le _) (Nat.le_of_ble_eq_true rfl) (fun r20 V20 h20 => ?_)
    obtain ⟨⟨y20, rfl, hl20, hh20, hP20_0⟩, hE20⟩ := h20
    have hE20 := hE20.symm
    subst hE20
    clear hl20 hh20
    try simp only [hz17.eq] at hP20_0
    have hz20 : jEq y20.toInt (jopp (g.toInt) ((S (n.toInt - 1 - x3.toInt).toNat).toInt)) := hP20_0
    clear hP20_0
    have hob := jopp_b (g := g.toInt) (d := (S (n.toInt - 1 - x3.toInt).toNat).toInt) (by omega) (by omega)
    refine J_goto (tgt := 31) dX1_turnedStep_23 (by decide) ?_
    refine J_istore dX1_turnedStep_31 rfl (by decide) ?_
    refine J_aload_n dX1_turnedStep_33 rfl ?_
    refine J_get jf_X1_23 dX1_turnedStep_34 hO_a0 hF_g ?_
    refine J_iload_n dX1_turnedStep_37 rfl ?_
    refine J_iload dX1_turnedStep_38 rfl ?_
    refine J_callS3 moX0_turned jw_ml_X1_49 jw_st_X0_turned dX1_turnedStep_40 (w_X0_turned_z (d - 1) _ g x1 y20 (by omega)   (by omega) (by omega) (by omega) (by omega) (by (try simp only [hz20.eq, true_and, and_true]) <;> omega) (by (try simp only [hz20.eq, true_and, and_true]) <;> omega)) (by omega) (Nat.zero_le _) (Nat.zero_le _) (Nat.le_of_ble_eq_true rfl) (fun r40 V40 h40 => ?_)
    obtain ⟨⟨y40, rfl, hl40, hh40, hP40_0⟩, hE40⟩ := h40
    have hE40 := hE40.symm
    subst hE40
    clear hl40 hh40
    try simp only [hz20.eq] at hP40_0
    have hz40 : jEq y40.toInt (jtn (g.toInt) (x1.toInt) (jopp (g.toInt) ((S (n.toInt - 1 - x3.toInt).toNat).toInt))) := hP40_0
    clear hP40_0
    exact J_ret (r := some (.int _)) dX1_turnedStep_43 ⟨rfl, _, rfl, rfl⟩ (⟨⟨_, rfl, (j_rng _).1, (j_rng _).2, (by rw [hz40.eq]; unfold jim; first | (rw [show decide (x2.toInt = 1) = true from decide_eq_true (by omega)]; (show jtn _ _ _ = jtn _ _ (jopp _ (S _).toInt)); rw [show (n.toInt - 1 - x3.toInt).toNat = n.toInt.toNat - 1 - x3.toInt.toNat by omega]) | (rw [show decide (x2.toInt = 1) = false from decide_eq_false (by omega)]; rfl))⟩, rfl⟩)
set_option maxRecDepth 100000 in
set_option maxHeartbeats 8000000 in
theorem w_X1_isBelow_z {tS : jTS} (d : Nat) (V0 : jH) {ln : Nat} (a0 : Nat) (x1 : Int32) (x2 : Int32) (a3 : Nat) (M : Int32) (g : Int32) (n : Int32) (s : Nat) (xx : Nat) (yy : Nat) (zz : Nat) (S : Nat → Int32) (X : Nat → Int32) (Y : Nat → Int32) (Z : Nat → Int32) (B : Nat → Int32) (hd : 3 ≤ d) (hW : WT V0) (ha0 : jis V0 (.inr 1) a0) (hl2 : 0 ≤ x2.toInt) (hh2 : x2.toInt ≤ 1) (ha3 : jis V0 (.inl 7) a3) (hf_M : jfI V0 a0 1 0 M) (hf_g : jfI V0 a0 1 5 g) (hf_n : jfI V0 a0 1 6 n) (hr_s : jfR V0 a0 1 1 s) (hr_xx : jfR V0 a0 1 2 xx) (hr_yy : jfR V0 a0 1 3 yy) (hr_zz : jfR V0 a0 1 4 zz) (ha_S : V0 s = some (.inl (6, ln, .inl S))) (ha_X : V0 xx = some (.inl (34, ln + 1, .inl X))) (ha_Y : V0 yy = some (.inl (35, ln + 1, .inl Y))) (ha_Z : V0 zz = some (.inl (36, ln + 1, .inl Z))) (ha_B : V0 a3 = some (.inl (7, 60, .inl B))) (hp0 : M.toInt = (ln : Int)) (hp1 : (ln : Int) ≤ 120) (hp2 : n.toInt ≤ M.toInt) (hp3 : 0 ≤ g.toInt) (hp4 : g.toInt ≤ 3) (hp5 : 0 ≤ x1.toInt) (hp6 : x1.toInt < jtur g.toInt) (hp7 : ∀ j : Nat, (j : Int) < n.toInt → 0 ≤ (S j).toInt ∧ (S j).toInt < jdir g.toInt) (hp8 : n.toInt ≤ 60) (hp9 : ∀ j : Nat, (j : Int) < n.toInt → 0 ≤ (B j).toInt ∧ (B j).toInt < jdir g.toInt) : jTot tS mX1_isBelow d [.ref a0, .int x1, .int x2, .ref a3] V0 0 0 (fun r V => (fun r _ => ∃ y : Int32, r = some (.int y) ∧ (0 ≤ y.toInt) ∧ (y.toInt ≤ 1) ∧ ((y.toInt = 1 ∧ jlx n.toInt.toNat (jim g.toInt (fun q => (S q).toInt) n.toInt.toNat x1.toInt (decide (x2.toInt = 1))) (fun q => (B q).toInt)) ∨ (y.toInt = 0 ∧ ¬ jlx n.toInt.toNat (jim g.toInt (fun q => (S q).toInt) n.toInt.toNat x1.toInt (decide (x2.toInt = 1))) (fun q => (B q).toInt)))) r V ∧ V = V0) := by
  refine jTot.of_J [some (.ref a0), some (.int x1), some (.int x2), some (.ref a3), none, none] moX1_isBelow (Nat.le_of_ble_eq_true rfl) rfl ?_
  have hrx1 := j_rng x1
  have he : jeff [] V0 V0 := jeff.refl _ _
  obtain ⟨fs_a0, hO_a0, hK_a0⟩ := WT_obj hW id ha0
  have hF_M := hf_M.get hO_a0
  have hrM : 0 ≤ M.toInt ∧ M.toInt ≤ 120 := jok_rngI hK_a0 rfl hF_M
  have hF_g := hf_g.get hO_a0
  have hrg : (-2147483648) ≤ g.toInt ∧ g.toInt ≤ 2147483647 := jok_rngI hK_a0 rfl hF_g
  have hF_n := hf_n.get hO_a0
  have hrn : 0 ≤ n.toInt ∧ n.toInt ≤ 120 := jok_rngI hK_a0 rfl hF_n
  have hF_s := hr_s.get hO_a0
  obtain ⟨w_s, hFq_s, b_s, hbq_s, hb_s⟩ := hK_a0.2 1 (.inr (some (.inl 6))) rfl
  cases hF_s.symm.trans (hFq_s.trans (congrArg some hbq_s))
  have hF_xx := hr_xx.get hO_a0
  obtain ⟨w_xx, hFq_xx, b_xx, hbq_xx, hb_xx⟩ := hK_a0.2 2 (.inr (some (.inl 34))) rfl
  cases hF_xx.symm.trans (hFq_xx.trans (congrArg some hbq_xx))
  have hF_yy := hr_yy.get hO_a0
  obtain ⟨w_yy, hFq_yy, b_yy, hbq_yy, hb_yy⟩ := hK_a0.2 3 (.inr (some (.inl 35))) rfl
  cases hF_yy.symm.trans (hFq_yy.trans (congrArg some hbq_yy))
  have hF_zz := hr_zz.get hO_a0
  obtain ⟨w_zz, hFq_zz, b_zz, hbq_zz, hb_zz⟩ := hK_a0.2 4 (.inr (some (.inl 36))) rfl
  cases hF_zz.symm.trans (hFq_zz.trans (congrArg some hbq_zz))
  obtain ⟨hN_S, hv_S⟩ := WT_rngI (r := ((-2147483648), 2147483647)) hW id rfl ha_S
  clear hN_S
  obtain ⟨hN_X, hv_X⟩ := WT_rngI (r := ((-2147483648), 2147483647)) hW id rfl ha_X
  clear hN_X
  obtain ⟨hN_Y, hv_Y⟩ := WT_rngI (r := ((-2147483648), 2147483647)) hW id rfl ha_Y
  clear hN_Y
  obtain ⟨hN_Z, hv_Z⟩ := WT_rngI (r := ((-2147483648), 2147483647)) hW id rfl ha_Z
  clear hN_Z
  obtain ⟨hN_B, hv_B⟩ := WT_rngI (r := ((-2147483648), 2147483647)) hW id rfl ha_B
  clear hN_B
  have hjd := jdir_cases g.toInt
  have hjb : ∀ j : Nat, j < n.toInt.toNat → 0 ≤ (jim g.toInt (fun q => (S q).toInt) n.toInt.toNat x1.toInt (decide (x2.toInt = 1)) j) ∧ (jim g.toInt (fun q => (S q).toInt) n.toInt.toNat x1.toInt (decide (x2.toInt = 1)) j) < jdir g.toInt := fun j hj => jim_b (by omega) (by omega) (fun q hq => hp7 q (by omega)) hj
  refine Jz_iconst 0 dX1_isBelow_0 (by decide) (fun y0 he0 => ?_)
  refine J_istore dX1_isBelow_1 rfl (by decide) ?_
  have L3 : ∀ (N : Nat) (i4n3 : Int32), (0 ≤ i4n3.toInt ∧ i4n3.toInt ≤ n.toInt) → (∀ j : Nat, (j : Int) < i4n3.toInt → (jim g.toInt (fun q => (S q).toInt) n.toInt.toNat x1.toInt (decide (x2.toInt = 1)) j) = (B j).toInt) → (300 - i4n3.toInt).toNat < N → J tS mX1_isBelow d 3 [some (.ref a0), some (.int x1), some (.int x2), some (.ref a3), some (.int i4n3), none] [] V0 0 0 (fun r V => (fun r _ => ∃ y : Int32, r = some (.int y) ∧ (0 ≤ y.toInt) ∧ (y.toInt ≤ 1) ∧ ((y.toInt = 1 ∧ jlx n.toInt.toNat (jim g.toInt (fun q => (S q).toInt) n.toInt.toNat x1.toInt (decide (x2.toInt = 1))) (fun q => (B q).toInt)) ∨ (y.toInt = 0 ∧ ¬ jlx n.toInt.toNat (jim g.toInt (fun q => (S q).toInt) n.toInt.toNat x1.toInt (decide (x2.toInt = 1))) (fun q => (B q).toInt)))) r V ∧ V = V0) := by
    intro N
    induction N with
    | zero => intro i4n3  hi4 heq hm; exact absurd hm (Nat.not_lt_zero _)
    | succ N ih =>
      intro i4n3  hi4 heq hm
      have ih3 := ih
      have hri4 := j_rng i4n3
      refine J_iload dX1_isBelow_3 rfl ?_
      refine J_aload_n dX1_isBelow_5 rfl ?_
      refine J_get jf_X1_9 dX1_isBelow_6 hO_a0 hF_n ?_
      refine Jz_icmp_ge (tgt := 51) jEq.rf jEq.rf dX1_isBelow_9 (by decide) (fun c9 => ?_) (fun c9 => ?_)
      · refine Jz_iconst 0 dX1_isBelow_51 (by decide) (fun y51 he51 => ?_)
        exact J_ret (r := some (.int _)) dX1_isBelow_52 ⟨rfl, _, rfl, (nar_b (by (try simp only [he51.eq, true_and, and_true]) <;> omega) (by (try simp only [he51.eq, true_and, and_true]) <;> omega))⟩ (⟨⟨_, rfl, (by (try simp only [he51.eq, true_and, and_true]) <;> omega), (by (try simp only [he51.eq, true_and, and_true]) <;> omega), (Or.inr ⟨he51.eq, jlx_eq (fun j hj => heq j (by omega))⟩)⟩, rfl⟩)
      · refine J_aload_n dX1_isBelow_12 rfl ?_
        refine J_iload_n dX1_isBelow_13 rfl ?_
        refine J_iload_n dX1_isBelow_14 rfl ?_
        refine J_iload dX1_isBelow_15 rfl ?_
        refine J_callS4 moX1_turnedStep jw_ml_X1_41 jw_st_X1_turnedStep dX1_isBelow_17 (w_X1_turnedStep_z (d - 1) _ a0 x1 x2 i4n3 M g n s xx yy zz S X Y Z (by omega) hW  ha0 (by omega) (by omega) ⟨_, hO_a0, hF_M⟩ ⟨_, hO_a0, hF_g⟩ ⟨_, hO_a0, hF_n⟩ ⟨_, hO_a0, hF_s⟩ ⟨_, hO_a0, hF_xx⟩ ⟨_, hO_a0, hF_yy⟩ ⟨_, hO_a0, hF_zz⟩ ha_S ha_X ha_Y ha_Z (by omega) (by omega) (by omega) (by omega) (by omega) (by omega) (by omega) (by omega) (by omega) (by omega)) (by omega) (Nat.zero_le _) (Nat.zero_le _) (Nat.le_of_ble_eq_true rfl) (fun r17 V17 h17 => ?_)
        obtain ⟨⟨y17, rfl, hl17, hh17, hP17_0⟩, hE17⟩ := h17
        have hE17 := hE17.symm
        subst hE17
        clear hl17 hh17
        have hz17 : jEq y17.toInt ((jim (g.toInt) (fun q => (S q).toInt) (n.toInt).toNat (x1.toInt) (decide ((x2.toInt) = 1)) (i4n3.toInt).toNat)) := hP17_0
        clear hP17_0
        have hb1 := hjb i4n3.toInt.toNat (by omega)
        have hb2 := hp9 i4n3.toInt.toNat (by omega)
        refine J_aload_n dX1_isBelow_20 rfl ?_
        refine J_iload dX1_isBelow_21 rfl ?_
        refine J_callSN2 moX6_cell (host := "WalkGrounds") (List.mem_of_getElem? (i := 3) rfl) jw_st_X6_cell dX1_isBelow_23 (w_X6_cell_x (d - 1) _ a3 i4n3 ha_B (WT_rngI (r := (-2147483648, 2147483647)) hW id rfl ha_B).1 rfl (by omega) (by omega)) (by omega) (Nat.zero_le _) (Nat.zero_le _) (Nat.le_of_ble_eq_true rfl) (fun r23 V23 h23 => ?_)
        obtain ⟨⟨y23, rfl, hf23⟩, hE23⟩ := h23
        have hE23 := hE23.symm
        subst hE23
        have hz23 : jEq y23.toInt (B (i4n3.toInt).toNat).toInt := by rw [← hf23]; rfl
        clear hf23
        · refine Jz_isub hz17 hz23 dX1_isBelow_26 (by omega) (by omega) (fun y26 he26 => ?_)
          refine J_istore dX1_isBelow_27 rfl (by decide) ?_
          refine J_iload dX1_isBelow_29 rfl ?_
          refine Jz_if_eq (tgt := 45) he26 dX1_isBelow_31 (by decide) (fun c31 => ?_) (fun c31 => ?_)
          · refine Jz_iinc 1 dX1_isBelow_45 rfl rfl (by decide) jEq.rf (by decide) (by omega) (by omega) (fun y45 he45 => ?_)
            refine J_goto (tgt := 3) dX1_isBelow_48 (by decide) ?_
            refine J.mask [true, true, true, true, true, false] ?_
            exact ih3  y45  (by (try simp only [he45.eq, true_and, and_true]) <;> omega) (fun j hj => by rw [he45.eq] at hj; by_cases h9 : (j : Int) = i4n3.toInt; (have e : j = i4n3.toInt.toNat := by omega); subst e; omega; exact heq j (by omega)) (by (try simp only [he45.eq, true_and, and_true]) <;> omega)
          · refine J_iload dX1_isBelow_34 rfl ?_
            refine Jz_if_ge (tgt := 43) he26 dX1_isBelow_36 (by decide) (fun c36 => ?_) (fun c36 => ?_)
            · refine Jz_iconst 0 dX1_isBelow_43 (by decide) (fun y43 he43 => ?_)
              exact J_ret (r := some (.int _)) dX1_isBelow_44 ⟨rfl, _, rfl, (nar_b (by (try simp only [he43.eq, true_and, and_true]) <;> omega) (by (try simp only [he43.eq, true_and, and_true]) <;> omega))⟩ (⟨⟨_, rfl, (by (try simp only [he43.eq, true_and, and_true]) <;> omega), (by (try simp only [he43.eq, true_and, and_true]) <;> omega), (by have q := jlx_at (n := n.toInt.toNat) (i := i4n3.toInt.toNat) (F := (jim g.toInt (fun q => (S q).toInt) n.toInt.toNat x1.toInt (decide (x2.toInt = 1)))) (B := (fun q => (B q).toInt)) (by omega) (fun j hj => heq j (by omega)) (fun z => c31 (by have z2 : (jim g.toInt (fun q => (S q).toInt) n.toInt.toNat x1.toInt (decide (x2.toInt = 1)) i4n3.toInt.toNat) = (B i4n3.toInt.toNat).toInt := z; omega)); first | exact Or.inl ⟨he39.eq, q.mpr (show (jim g.toInt (fun q => (S q).toInt) n.toInt.toNat x1.toInt (decide (x2.toInt = 1)) i4n3.toInt.toNat) < (B i4n3.toInt.toNat).toInt by omega)⟩ | exact Or.inr ⟨he43.eq, fun z => absurd (show (jim g.toInt (fun q => (S q).toInt) n.toInt.toNat x1.toInt (decide (x2.toInt = 1)) i4n3.toInt.toNat) < (B i4n3.toInt.toNat).toInt from q.mp z) (by omega)⟩)⟩, rfl⟩)
            · refine Jz_iconst 1 dX1_isBelow_39 (by decide) (fun y39 he39 => ?_)
              refine J_goto (tgt := 44) dX1_isBelow_40 (by decide) ?_
              exact J_ret (r := some (.int _)) dX1_isBelow_44 ⟨rfl, _, rfl, (nar_b (by (try simp only [he39.eq, true_and, and_true]) <;> omega) (by (try simp only [he39.eq, true_and, and_true]) <;> omega))⟩ (⟨⟨_, rfl, (by (try simp only [he39.eq, true_and, and_true]) <;> omega), (by (try simp only [he39.eq, true_and, and_true]) <;> omega), (by have q := jlx_at (n := n.toInt.toNat) (i := i4n3.toInt.toNat) (F := (jim g.toInt (fun q => (S q).toInt) n.toInt.toNat x1.toInt (decide (x2.toInt = 1)))) (B := (fun q => (B q).toInt)) (by omega) (fun j hj => heq j (by omega)) (fun z => c31 (by have z2 : (jim g.toInt (fun q => (S q).toInt) n.toInt.toNat x1.toInt (decide (x2.toInt = 1)) i4n3.toInt.toNat) = (B i4n3.toInt.toNat).toInt := z; omega)); first | exact Or.inl ⟨he39.eq, q.mpr (show (jim g.toInt (fun q => (S q).toInt) n.toInt.toNat x1.toInt (decide (x2.toInt = 1)) i4n3.toInt.toNat) < (B i4n3.toInt.toNat).toInt by omega)⟩ | exact Or.inr ⟨he43.eq, fun z => absurd (show (jim g.toInt (fun q => (S q).toInt) n.toInt.toNat x1.toInt (decide (x2.toInt = 1)) i4n3.toInt.toNat) < (B i4n3.toInt.toNat).toInt from q.mp z) (by omega)⟩)⟩, rfl⟩)
  refine J.mask [true, true, true, true, true, false] ?_
  exact L3 _  y0    (by (try simp only [he0.eq, true_and, and_true]) <;> omega) (fun j hj => by rw [he0.eq] at hj; omega) (Nat.lt_succ_self _)
