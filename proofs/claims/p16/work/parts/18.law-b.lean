set_option maxRecDepth 100000 in
set_option maxHeartbeats 4000000 in
theorem lawc_22 {tS : jTS} {b L : Nat} {xs : Nat → Int32} (hs9 : tS.2 = some (b, L, xs)) (V : jH) (ax am : Nat) (i : Int32) (G N : Nat) {Q : Option Value → jH → Prop} (hW : WT V) (hx : jis V (.inr 4) ax) (hm : jis V (.inr 5) am) (hg : jphi V ax G) (hc : jTC V ax am) (hin1 : vp_in (i + 1) L) (hin2 : vp_in (i + 2) L) (hin3 : vp_in (i + 3) L) (kk : ∀ (V2 : jH) (G2 : Nat), WT V2 → jis V2 (.inr 4) ax → jis V2 (.inr 5) am → jphi V2 ax G2 → jTC V2 ax am → G2 ≤ G → J tS mL_law 1000 908 [some (.ref b), some (.ref ax), some (.ref am), some (.int i)] [] V2 (5 * N + 8 * G2) (491 * N + 20013 * G2) Q) : J tS mL_law 1000 872 [some (.ref b), some (.ref ax), some (.ref am), some (.int i)] [] V (5 * (N + 1) + 8 * G) (491 * (N + 1) + 20013 * G) Q := by
  refine J_aload_n dL_law_872 rfl ?_
  refine J_aload_n dL_law_873 rfl ?_
  refine J_iload_n dL_law_874 rfl ?_
  refine J_iconst (v := 1) dL_law_875 (by decide) ?_
  refine J_iadd dL_law_876 ?_
  refine J_sld hs9 dL_law_877 hin1 ?_
  have K : ∀ (V2 : jH) (G2 : Nat) (y1 : Int32), WT V2 → jis V2 (.inr 4) ax → jis V2 (.inr 5) am → jphi V2 ax G2 → jTC V2 ax am → G2 ≤ G → J tS mL_law 1000 881 [some (.ref b), some (.ref ax), some (.ref am), some (.int i)] [.int y1] V2 (5 * N + 8 * G2) (491 * N + 20013 * G2) Q := by
    intro V2 G2 y1 hW hx hm hg hc hG2
    refine J_pop dL_law_881 rfl ?_
    refine J_aload_n dL_law_882 rfl ?_
    refine J_aload_n dL_law_883 rfl ?_
    refine J_iload_n dL_law_884 rfl ?_
    refine J_iconst (v := 1) dL_law_885 (by decide) ?_
    refine J_iadd dL_law_886 ?_
    refine J_sld hs9 dL_law_887 hin1 ?_
    refine Jw_callV1 (q9 := (RX7, TX7, 34)) moX7_count jw_ml_L_111 jw_im_X7_count jw_se_X7_count hm rfl rfl dL_law_888 (w_X7_count 999 _ am (xs (i + 1).toNatClampNeg) (by decide) hW hm ) (by decide) (Nat.zero_le _) (Nat.zero_le _) (Nat.le_of_ble_eq_true rfl) (fun r V3 h => ?_)
    obtain ⟨⟨y2, rfl, hy2⟩, hE⟩ := h
    subst hE
    refine J_pop dL_law_891 rfl ?_
    refine J_goto (tgt := 908) dL_law_892 (by decide) ?_
    exact J.less (kc' := 5 * N + 8 * G2) (ks' := 491 * N + 20013 * G2) (by omega) (by omega) (kk _ G2 hW hx hm hg hc hG2)
  refine Jw_callV1 (q9 := (RX6, TX6, 7)) moX6_count jw_ml_L_108 jw_im_X6_count jw_se_X6_count hx rfl rfl dL_law_878 (w_X6_count 999 _ ax (xs (i + 1).toNatClampNeg) (by decide) hW hx ) (by decide) (Nat.zero_le _) (Nat.zero_le _) (Nat.le_of_ble_eq_true rfl) (fun r V3 h => ?_)
  obtain ⟨⟨y1, rfl, hy1⟩, hE⟩ := h
  subst hE
  exact J.less (kc' := 5 * N + 8 * (G)) (ks' := 491 * N + 20013 * (G)) (by omega) (by omega) (K _ (G) _ hW hx hm hg hc (Nat.le_refl _))
set_option maxRecDepth 100000 in
set_option maxHeartbeats 4000000 in
theorem lawc_23 {tS : jTS} {b L : Nat} {xs : Nat → Int32} (hs9 : tS.2 = some (b, L, xs)) (V : jH) (ax am : Nat) (i : Int32) (G N : Nat) {Q : Option Value → jH → Prop} (hW : WT V) (hx : jis V (.inr 4) ax) (hm : jis V (.inr 5) am) (hg : jphi V ax G) (hc : jTC V ax am) (hin1 : vp_in (i + 1) L) (hin2 : vp_in (i + 2) L) (hin3 : vp_in (i + 3) L) (kk : ∀ (V2 : jH) (G2 : Nat), WT V2 → jis V2 (.inr 4) ax → jis V2 (.inr 5) am → jphi V2 ax G2 → jTC V2 ax am → G2 ≤ G → J tS mL_law 1000 908 [some (.ref b), some (.ref ax), some (.ref am), some (.int i)] [] V2 (5 * N + 8 * G2) (491 * N + 20013 * G2) Q) : J tS mL_law 1000 895 [some (.ref b), some (.ref ax), some (.ref am), some (.int i)] [] V (5 * (N + 1) + 8 * G) (491 * (N + 1) + 20013 * G) Q := by
  refine J_aload_n dL_law_895 rfl ?_
  have K : ∀ (V2 : jH) (G2 : Nat) (y1 : Int64), WT V2 → jis V2 (.inr 4) ax → jis V2 (.inr 5) am → jphi V2 ax G2 → jTC V2 ax am → G2 ≤ G → J tS mL_law 1000 899 [some (.ref b), some (.ref ax), some (.ref am), some (.int i)] [.long y1] V2 (5 * N + 8 * G2) (491 * N + 20013 * G2) Q := by
    intro V2 G2 y1 hW hx hm hg hc hG2
    refine J_pop2L dL_law_899 rfl ?_
    refine J_aload_n dL_law_900 rfl ?_
    refine Jw_callV0 (q9 := (RX7, TX7, 34)) moX7_digest jw_ml_L_116 jw_im_X7_digest jw_se_X7_digest hm rfl rfl dL_law_901 (w_X7_digest 999 _ am  (by decide) hW hm ) (by decide) (Nat.zero_le _) (Nat.zero_le _) (Nat.le_of_ble_eq_true rfl) (fun r V3 h => ?_)
    obtain ⟨⟨l2, rfl⟩, hE⟩ := h
    subst hE
    refine J_pop2L dL_law_904 rfl ?_
    refine J_goto (tgt := 908) dL_law_905 (by decide) ?_
    exact J.less (kc' := 5 * N + 8 * G2) (ks' := 491 * N + 20013 * G2) (by omega) (by omega) (kk _ G2 hW hx hm hg hc hG2)
  refine Jw_callV0 (q9 := (RX6, TX6, 7)) moX6_digest jw_ml_L_112 jw_im_X6_digest jw_se_X6_digest hx rfl rfl dL_law_896 (w_X6_digest 999 _ ax  (by decide) hW hx ) (by decide) (Nat.zero_le _) (Nat.zero_le _) (Nat.le_of_ble_eq_true rfl) (fun r V3 h => ?_)
  obtain ⟨⟨y1, rfl⟩, hE⟩ := h
  subst hE
  exact J.less (kc' := 5 * N + 8 * (G)) (ks' := 491 * N + 20013 * (G)) (by omega) (by omega) (K _ (G) _ hW hx hm hg hc (Nat.le_refl _))
theorem law_head {tS : jTS} {b L : Nat} {xs : Nat → Int32} (hs9 : tS.2 = some (b, L, xs)) (hL : L ≤ 2048) {V : jH} {ax am : Nat} {i : Int32} {kc ks : Nat} {Q : Option Value → jH → Prop} (hQ : ∀ V : jH, Q (some (.int 1)) V) (k : i.toInt ≤ (L : Int) - 4 → J tS mL_law 1000 26 [some (.ref b), some (.ref ax), some (.ref am), some (.int i)] [] V kc ks Q) : J tS mL_law 1000 18 [some (.ref b), some (.ref ax), some (.ref am), some (.int i)] [] V kc ks Q := by
  have hl : (Int32.ofNat L).toInt = (L : Int) := jn_len (by omega)
  have hs : (Int32.ofNat L - 4).toInt = (L : Int) - 4 := by
    have h4 : (4 : Int32).toInt = 4 := rfl
    rw [j_sub (by omega) (by omega)]
    omega
  refine J_iload_n dL_law_18 rfl ?_
  refine J_aload_n dL_law_19 rfl ?_
  refine J_slen hs9 dL_law_20 ?_
  refine J_iconst (v := 4) dL_law_21 (by decide) ?_
  refine J_isub dL_law_22 ?_
  refine J_icmp_gt (tgt := 914) dL_law_23 (by decide) (fun _ => ?_) (fun c => k (by rw [jlt] at c; omega))
  refine J_iconst (v := 1) dL_law_914 (by decide) ?_
  exact J_ret (r := some (.int 1)) dL_law_915 ⟨rfl, _, rfl, rfl⟩ (hQ _)
set_option maxRecDepth 100000 in
set_option maxHeartbeats 4000000 in
theorem law_loop {tS : jTS} {b L : Nat} {xs : Nat → Int32} (hs9 : tS.2 = some (b, L, xs)) (hL : L ≤ 2048) (ax am : Nat) {Q : Option Value → jH → Prop} (hQ : ∀ V : jH, Q (some (.int 1)) V) : ∀ (N : Nat) (V : jH) (i : Int32) (G : Nat), WT V → jis V (.inr 4) ax → jis V (.inr 5) am → jphi V ax G → jTC V ax am → 0 ≤ i.toInt → (L : Int) - i.toInt ≤ 4 * (N : Int) → J tS mL_law 1000 18 [some (.ref b), some (.ref ax), some (.ref am), some (.int i)] [] V (5 * N + 8 * G) (491 * N + 20013 * G) Q := by
  intro N
  induction N with
  | zero =>
    intro V i G hW hx hm hg hc h0 hN
    exact law_head hs9 hL hQ (fun h => (show False by omega).elim)
  | succ N ih =>
    intro V i G hW hx hm hg hc h0 hN
    refine law_head hs9 hL hQ (fun h => ?_)
    have hadd : ∀ c : Int32, 0 ≤ c.toInt → c.toInt ≤ 4 → (i + c).toInt = i.toInt + c.toInt := fun c h1 h2 => j_add (by omega) (by omega)
    have hin0 : vp_in i L := vp_in_n h0 (by omega)
    have hin1 : vp_in (i + 1) L := by have q := hadd 1 (by decide) (by decide); have q1 : (1 : Int32).toInt = 1 := rfl; exact vp_in_n (by omega) (by omega)
    have hin2 : vp_in (i + 2) L := by have q := hadd 2 (by decide) (by decide); have q1 : (2 : Int32).toInt = 2 := rfl; exact vp_in_n (by omega) (by omega)
    have hin3 : vp_in (i + 3) L := by have q := hadd 3 (by decide) (by decide); have q1 : (3 : Int32).toInt = 3 := rfl; exact vp_in_n (by omega) (by omega)
    have kk : ∀ (V2 : jH) (G2 : Nat), WT V2 → jis V2 (.inr 4) ax → jis V2 (.inr 5) am → jphi V2 ax G2 → jTC V2 ax am → G2 ≤ G → J tS mL_law 1000 908 [some (.ref b), some (.ref ax), some (.ref am), some (.int i)] [] V2 (5 * N + 8 * G2) (491 * N + 20013 * G2) Q := by
      intro V2 G2 hW2 hx2 hm2 hg2 hc2 _
      have q := hadd 4 (by decide) (by decide)
      have q1 : (4 : Int32).toInt = 4 := rfl
      refine J_iinc (v := i + 4) dL_law_908 rfl j_inc4 rfl (by decide) ?_
      refine J_goto (tgt := 18) dL_law_911 (by decide) ?_
      exact ih V2 (i + 4) G2 hW2 hx2 hm2 hg2 hc2 (by omega) (by omega)
    refine J_aload_n dL_law_26 rfl ?_
    refine J_iload_n dL_law_27 rfl ?_
    refine J_sld hs9 dL_law_28 hin0 ?_
    refine J_bipush (v := 31) dL_law_29 (by decide) ?_
    refine J_iand dL_law_31 ?_
    rcases jsw23 (xs i.toNatClampNeg &&& 31) with hq | hq | hq | hq | hq | hq | hq | hq | hq | hq | hq | hq | hq | hq | hq | hq | hq | hq | hq | hq | hq | hq | hq | hq | hq | hq
    · rw [hq]
      refine J_tableIn (tgt := 144) dL_law_32 (by decide) (by decide) rfl (by decide) ?_
      exact lawc_0 hs9 V ax am i G N hW hx hm hg hc hin1 hin2 hin3 kk
    · rw [hq]
      refine J_tableIn (tgt := 167) dL_law_32 (by decide) (by decide) rfl (by decide) ?_
      exact lawc_1 hs9 V ax am i G N hW hx hm hg hc hin1 hin2 hin3 kk
    · rw [hq]
      refine J_tableIn (tgt := 200) dL_law_32 (by decide) (by decide) rfl (by decide) ?_
      exact lawc_2 hs9 V ax am i G N hW hx hm hg hc hin1 hin2 hin3 kk
    · rw [hq]
      refine J_tableIn (tgt := 233) dL_law_32 (by decide) (by decide) rfl (by decide) ?_
      exact lawc_3 hs9 V ax am i G N hW hx hm hg hc hin1 hin2 hin3 kk
    · rw [hq]
      refine J_tableIn (tgt := 276) dL_law_32 (by decide) (by decide) rfl (by decide) ?_
      exact lawc_4 hs9 V ax am i G N hW hx hm hg hc hin1 hin2 hin3 kk
    · rw [hq]
      refine J_tableIn (tgt := 309) dL_law_32 (by decide) (by decide) rfl (by decide) ?_
      exact lawc_5 hs9 V ax am i G N hW hx hm hg hc hin1 hin2 hin3 kk
    · rw [hq]
      refine J_tableIn (tgt := 332) dL_law_32 (by decide) (by decide) rfl (by decide) ?_
      exact lawc_6 hs9 V ax am i G N hW hx hm hg hc hin1 hin2 hin3 kk
    · rw [hq]
      refine J_tableIn (tgt := 365) dL_law_32 (by decide) (by decide) rfl (by decide) ?_
      exact lawc_7 hs9 V ax am i G N hW hx hm hg hc hin1 hin2 hin3 kk
    · rw [hq]
      refine J_tableIn (tgt := 408) dL_law_32 (by decide) (by decide) rfl (by decide) ?_
      exact lawc_8 hs9 V ax am i G N hW hx hm hg hc hin1 hin2 hin3 kk
    · rw [hq]
      refine J_tableIn (tgt := 441) dL_law_32 (by decide) (by decide) rfl (by decide) ?_
      exact lawc_9 hs9 V ax am i G N hW hx hm hg hc hin1 hin2 hin3 kk
    · rw [hq]
      refine J_tableIn (tgt := 474) dL_law_32 (by decide) (by decide) rfl (by decide) ?_
      exact lawc_10 hs9 V ax am i G N hW hx hm hg hc hin1 hin2 hin3 kk
    · rw [hq]
      refine J_tableIn (tgt := 507) dL_law_32 (by decide) (by decide) rfl (by decide) ?_
      exact lawc_11 hs9 V ax am i G N hW hx hm hg hc hin1 hin2 hin3 kk
    · rw [hq]
      refine J_tableIn (tgt := 540) dL_law_32 (by decide) (by decide) rfl (by decide) ?_
      exact lawc_12 hs9 V ax am i G N hW hx hm hg hc hin1 hin2 hin3 kk
    · rw [hq]
      refine J_tableIn (tgt := 573) dL_law_32 (by decide) (by decide) rfl (by decide) ?_
      exact lawc_13 hs9 V ax am i G N hW hx hm hg hc hin1 hin2 hin3 kk
    · rw [hq]
      refine J_tableIn (tgt := 606) dL_law_32 (by decide) (by decide) rfl (by decide) ?_
      exact lawc_14 hs9 V ax am i G N hW hx hm hg hc hin1 hin2 hin3 kk
    · rw [hq]
      refine J_tableIn (tgt := 639) dL_law_32 (by decide) (by decide) rfl (by decide) ?_
      exact lawc_15 hs9 V ax am i G N hW hx hm hg hc hin1 hin2 hin3 kk
    · rw [hq]
      refine J_tableIn (tgt := 672) dL_law_32 (by decide) (by decide) rfl (by decide) ?_
      exact lawc_16 hs9 V ax am i G N hW hx hm hg hc hin1 hin2 hin3 kk
    · rw [hq]
      refine J_tableIn (tgt := 705) dL_law_32 (by decide) (by decide) rfl (by decide) ?_
      exact lawc_17 hs9 V ax am i G N hW hx hm hg hc hin1 hin2 hin3 kk
    · rw [hq]
      refine J_tableIn (tgt := 738) dL_law_32 (by decide) (by decide) rfl (by decide) ?_
      exact lawc_18 hs9 V ax am i G N hW hx hm hg hc hin1 hin2 hin3 kk
    · rw [hq]
      refine J_tableIn (tgt := 797) dL_law_32 (by decide) (by decide) rfl (by decide) ?_
      exact lawc_19 hs9 V ax am i G N hW hx hm hg hc hin1 hin2 hin3 kk
    · rw [hq]
      refine J_tableIn (tgt := 836) dL_law_32 (by decide) (by decide) rfl (by decide) ?_
      exact lawc_20 hs9 V ax am i G N hW hx hm hg hc hin1 hin2 hin3 kk
    · rw [hq]
      refine J_tableIn (tgt := 859) dL_law_32 (by decide) (by decide) rfl (by decide) ?_
      exact lawc_21 hs9 V ax am i G N hW hx hm hg hc hin1 hin2 hin3 kk
    · rw [hq]
      refine J_tableIn (tgt := 872) dL_law_32 (by decide) (by decide) rfl (by decide) ?_
      exact lawc_22 hs9 V ax am i G N hW hx hm hg hc hin1 hin2 hin3 kk
    · rw [hq]
      refine J_tableIn (tgt := 895) dL_law_32 (by decide) (by decide) rfl (by decide) ?_
      exact lawc_23 hs9 V ax am i G N hW hx hm hg hc hin1 hin2 hin3 kk
    · refine J_tableOut (tgt := 908) dL_law_32 (Or.inl hq) (by decide) ?_
      exact J.less (kc' := 5 * N + 8 * G) (ks' := 491 * N + 20013 * G) (by omega) (by omega) (kk V G hW hx hm hg hc (Nat.le_refl _))
    · refine J_tableOut (tgt := 908) dL_law_32 (Or.inr hq) (by decide) ?_
      exact J.less (kc' := 5 * N + 8 * G) (ks' := 491 * N + 20013 * G) (by omega) (by omega) (kk V G hW hx hm hg hc (Nat.le_refl _))
set_option maxRecDepth 100000 in
set_option maxHeartbeats 4000000 in
theorem law_J {tA : Nat → Nat} {b L : Nat} {xs : Nat → Int32} (hL : L ≤ 2048) : J (tA, some (b, L, xs)) mL_law 1000 0 [some (.ref b), none, none, none] [] (fun _ => none) 600000 7302250 (fun r _ => r = some (.int 1)) := by
  have hW : WT (fun _ => none) := fun a e _ h => by cases h
  refine Jc_new jn_L_7 dL_law_0 (by decide) (by decide) hW (fun ax V1 hn1 hQ1 hk1 hW he1 => ?_)
  refine J_dup dL_law_3 rfl ?_
  refine J_callI0 moX6_init rfl rfl jw_ml_L_9 jw_im_X6_init dL_law_4 (w_X6_init_t 999 _ _ (by decide) hW hQ1) (by decide) (by decide) (by decide) (Nat.le_of_ble_eq_true rfl) (fun r V2 h => ?_)
  obtain ⟨rfl, hW, he2, hx, hk1, hpx, htx, hff, hTL, hTF⟩ := h
  refine J_astore_n dL_law_7 rfl (by decide) ?_
  refine Jc_new jn_L_10 dL_law_8 (by decide) (by decide) hW (fun am V3 hn3 hQ3 hk3 hW he3 => ?_)
  have hx := hx.mono he3.1
  have hk1 := hk1.keep he3 (jnot_of rfl)
  have hpx := hpx.keep he3 (jnot_of rfl) (jnot_of rfl)
  have htx := htx.keep he3 (jdis_of rfl)
  refine J_dup dL_law_11 rfl ?_
  refine J_callI0 moX7_init rfl rfl jw_ml_L_12 jw_im_X7_init dL_law_12 (w_X7_init_t 999 _ _ (by decide) hW hQ3) (by decide) (by decide) (by decide) (Nat.le_of_ble_eq_true rfl) (fun r V4 h => ?_)
  obtain ⟨rfl, hW, he4, hm, hk2, hk3, hk4, hmx, hRM, hRF⟩ := h
  have hx := hx.mono he4.1
  have hk1 := hk1.keep he4 (jnot_of rfl)
  have hpx := hpx.keep he4 (jnot_of rfl) (jnot_of rfl)
  have htx := htx.keep he4 (jdis_of rfl)
  refine J_astore_n dL_law_15 rfl (by decide) ?_
  refine J_iconst (v := 0) dL_law_16 (by decide) ?_
  refine J_istore_n dL_law_17 rfl (by decide) ?_
  exact J.less (kc' := 5 * 512 + 8 * 36) (ks' := 491 * 512 + 20013 * 36) (by decide) (by decide) (law_loop rfl hL ax am (fun _ => rfl) 512 V4 0 36 hW hx hm (jphi.init hW hx) ⟨(hTL.keep he3 (jdis_of rfl)).keep he4 (jdis_of rfl), hRM⟩ (by decide) (by show (L : Int) - 0 ≤ 4 * (512 : Int); omega))
