set_option maxRecDepth 100000 in
set_option maxHeartbeats 4000000 in
theorem lawc_0 {tS : jTS} {b L : Nat} {xs : Nat → Int32} (hs9 : tS.2 = some (b, L, xs)) (V : jH) (ax am : Nat) (i : Int32) (G N : Nat) {Q : Option Value → jH → Prop} (hW : WT V) (hx : jis V (.inr 4) ax) (hm : jis V (.inr 5) am) (hg : jphi V ax G) (hr : jRL V ax am) (hc : jTX V ax am) (hin1 : vp_in (i + 1) L) (hin2 : vp_in (i + 2) L) (hin3 : vp_in (i + 3) L) (kk : ∀ (V2 : jH) (G2 : Nat), WT V2 → jis V2 (.inr 4) ax → jis V2 (.inr 5) am → jphi V2 ax G2 → jRL V2 ax am → jTX V2 ax am → G2 ≤ G → J tS mL_law 1000 908 [some (.ref b), some (.ref ax), some (.ref am), some (.int i)] [] V2 (5 * N + 8 * G2) (491 * N + 20013 * G2) Q) : J tS mL_law 1000 144 [some (.ref b), some (.ref ax), some (.ref am), some (.int i)] [] V (5 * (N + 1) + 8 * G) (491 * (N + 1) + 20013 * G) Q := by
  refine J_aload_n dL_law_144 rfl ?_
  refine J_aload_n dL_law_145 rfl ?_
  refine J_iload_n dL_law_146 rfl ?_
  refine J_iconst (v := 1) dL_law_147 (by decide) ?_
  refine J_iadd dL_law_148 ?_
  refine J_sld hs9 dL_law_149 hin1 ?_
  obtain ⟨hs, hp, hff⟩ := id hr
  obtain ⟨k, md, gr, mn, sp, f, GA, MN, SP, A, T, hc1, hr1, ht1, hk, hrows, hsp⟩ := id hs
  obtain ⟨ck, cmd, cA, ctr⟩ := id hc1
  obtain ⟨rk, rgr, rmn, rsp, rGA, rMN, rSP⟩ := id hr1
  obtain ⟨rw, px, py, pz, RW, PX, PY, PZ, q4, q6, q7, q8, b4, b6, b7, b8⟩ := WT_ref hW hm
  by_cases cG : 0 ≤ (xs (i + 1).toNatClampNeg).toInt ∧ (xs (i + 1).toNatClampNeg).toInt ≤ 3
  rotate_left
  · skip
    refine Jw_callV1 (q9 := (RX6, TX6, 7)) moX6_walk jw_ml_L_13 jw_im_X6_walk jw_se_X6_walk hx rfl rfl dL_law_150 (w_X6_walk_zbad 999 _ ax (xs (i + 1).toNatClampNeg) (by decide) hW hx cG) (by decide) (Nat.zero_le _) (Nat.zero_le _) (Nat.le_of_ble_eq_true rfl) (fun r V4 h => ?_)
    obtain ⟨⟨y1, rfl, -, -, hy1⟩, hE⟩ := h
    have hE := hE.symm
    subst hE
    refine J.less (kc' := 5 * N + 8 * G) (ks' := 491 * N + 20013 * G) (by omega) (by omega) ?_
    obtain ⟨G2, hGe⟩ : ∃ G2 : Nat, G2 = G := ⟨_, rfl⟩
    have hG2 : G2 ≤ G := Nat.le_of_eq hGe
    rw [← hGe] at hg ⊢
    refine J_pop dL_law_153 rfl ?_
    refine J_aload_n dL_law_154 rfl ?_
    refine J_aload_n dL_law_155 rfl ?_
    refine J_iload_n dL_law_156 rfl ?_
    refine J_iconst (v := 1) dL_law_157 (by decide) ?_
    refine J_iadd dL_law_158 ?_
    refine J_sld hs9 dL_law_159 hin1 ?_
    refine Jw_callV1 (q9 := (RX7, TX7, 34)) moX7_walk jw_ml_L_17 jw_im_X7_walk jw_se_X7_walk hm rfl rfl dL_law_160 (w_X7_walk_bad 999 _ am (xs (i + 1).toNatClampNeg) k (by decide) hW hm rk cG) (by decide) (Nat.zero_le _) (Nat.zero_le _) (Nat.le_of_ble_eq_true rfl) (fun r V3 h => ?_)
    obtain ⟨⟨y2, rfl, -, -, hy2⟩, hE⟩ := h
    have hE := hE.symm
    subst hE
    refine J_pop dL_law_163 rfl ?_
    refine J_goto (tgt := 908) dL_law_164 (by decide) ?_
    exact J.less (kc' := 5 * N + 8 * G2) (ks' := 491 * N + 20013 * G2) (by omega) (by omega) (kk _ G2 hW hx hm hg hr hc hG2)
  by_cases cF : k.toInt = 16
  · skip
    refine Jw_callV1 (q9 := (RX6, TX6, 7)) moX6_walk jw_ml_L_13 jw_im_X6_walk jw_se_X6_walk hx rfl rfl dL_law_150 (w_X6_walk_zold 999 _ ax (xs (i + 1).toNatClampNeg) k (by decide) hW hx ck cF) (by decide) (Nat.zero_le _) (Nat.zero_le _) (Nat.le_of_ble_eq_true rfl) (fun r V4 h => ?_)
    obtain ⟨⟨y1, rfl, -, -, hy1⟩, hE⟩ := h
    have hE := hE.symm
    subst hE
    refine J.less (kc' := 5 * N + 8 * G) (ks' := 491 * N + 20013 * G) (by omega) (by omega) ?_
    obtain ⟨G2, hGe⟩ : ∃ G2 : Nat, G2 = G := ⟨_, rfl⟩
    have hG2 : G2 ≤ G := Nat.le_of_eq hGe
    rw [← hGe] at hg ⊢
    refine J_pop dL_law_153 rfl ?_
    refine J_aload_n dL_law_154 rfl ?_
    refine J_aload_n dL_law_155 rfl ?_
    refine J_iload_n dL_law_156 rfl ?_
    refine J_iconst (v := 1) dL_law_157 (by decide) ?_
    refine J_iadd dL_law_158 ?_
    refine J_sld hs9 dL_law_159 hin1 ?_
    refine Jw_callV1 (q9 := (RX7, TX7, 34)) moX7_walk jw_ml_L_17 jw_im_X7_walk jw_se_X7_walk hm rfl rfl dL_law_160 (w_X7_walk_full 999 _ am (xs (i + 1).toNatClampNeg) k (by decide) hW hm rk cG.1 cG.2 cF) (by decide) (Nat.zero_le _) (Nat.zero_le _) (Nat.le_of_ble_eq_true rfl) (fun r V3 h => ?_)
    obtain ⟨⟨y2, rfl, -, -, hy2⟩, hE⟩ := h
    have hE := hE.symm
    subst hE
    refine J_pop dL_law_163 rfl ?_
    refine J_goto (tgt := 908) dL_law_164 (by decide) ?_
    exact J.less (kc' := 5 * N + 8 * G2) (ks' := 491 * N + 20013 * G2) (by omega) (by omega) (kk _ G2 hW hx hm hg hr hc hG2)
  refine Jw_callV1 (q9 := (RX6, TX6, 7)) moX6_walk jw_ml_L_13 jw_im_X6_walk jw_se_X6_walk hx rfl rfl dL_law_150 (w_X6_walk_zgo 999 _ ax (xs (i + 1).toNatClampNeg) k md f (by decide) hW hx ck cmd cA hk.1 (by omega) cG.1 cG.2) (by decide) (by omega) (by omega) (Nat.le_of_ble_eq_true rfl) (fun r V4 h => ?_)
  obtain ⟨⟨hW, he, y1, rfl, hy1⟩, ⟨w1, hw1, hww⟩, q, s, xx, yy, zz, hn5, hj2, hmd2, hkp2⟩ := h
  have hx := hx.mono he.1
  have hm := hm.mono he.1
  have hg := hg.keep he (jnot_of rfl) (jnot_of rfl)
  have hc := hc.keep he (jdis_of rfl)
  have rk := rk.keep he (jnot_of rfl)
  have rgr := rgr.mono he.1
  have rmn := rmn.mono he.1
  have rsp := rsp.mono he.1
  have q4 := q4.mono he.1
  have q6 := q6.mono he.1
  have q7 := q7.mono he.1
  have q8 := q8.mono he.1
  have rGA := he.2 _ _ rGA (jnot_of rfl)
  have rMN := he.2 _ _ rMN (jnot_of rfl)
  have rSP := he.2 _ _ rSP (jnot_of rfl)
  have b4 := he.2 _ _ b4 (jnot_of rfl)
  have b6 := he.2 _ _ b6 (jnot_of rfl)
  have b7 := he.2 _ _ b7 (jnot_of rfl)
  have b8 := he.2 _ _ b8 (jnot_of rfl)
  refine J.less (kc' := 5 * N + 8 * G) (ks' := 491 * N + 20013 * G) (by omega) (by omega) ?_
  obtain ⟨G2, hGe⟩ : ∃ G2 : Nat, G2 = G := ⟨_, rfl⟩
  have hG2 : G2 ≤ G := Nat.le_of_eq hGe
  rw [← hGe] at hg ⊢
  refine J_pop dL_law_153 rfl ?_
  refine J_aload_n dL_law_154 rfl ?_
  refine J_aload_n dL_law_155 rfl ?_
  refine J_iload_n dL_law_156 rfl ?_
  refine J_iconst (v := 1) dL_law_157 (by decide) ?_
  refine J_iadd dL_law_158 ?_
  refine J_sld hs9 dL_law_159 hin1 ?_
  refine Jw_callV1 (q9 := (RX7, TX7, 34)) moX7_walk jw_ml_L_17 jw_im_X7_walk jw_se_X7_walk hm rfl rfl dL_law_160 (w_X7_walk_ok 999 _ am (xs (i + 1).toNatClampNeg) k gr mn GA MN (by decide) hW hm rk rgr rmn rGA rMN cG.1 cG.2 (by omega)) (by decide) (Nat.zero_le _) (Nat.zero_le _) (Nat.le_of_ble_eq_true rfl) (fun r V3 h => ?_)
  obtain ⟨⟨hW, he5, y2, rfl, -, -, hy2⟩, ⟨G2r, hGr, hGk, hGo⟩, ⟨M2, hM2, hMk, hMo⟩, hkp, ⟨w0, hw0, hw0e⟩⟩ := h
  have hx := hx.mono he5.1
  have hm := hm.mono he5.1
  have hg := hg.keep he5 (jnot_of rfl) (jnot_of rfl)
  have hc := hc.keep he5 (jdis_of rfl)
  obtain rfl : w0 = w1 := jI_inj.mp (by omega)
  have hkq : ∀ (b : Nat) (e : jE), V b = some e → jsh e ∈ jRK → V4 b = some e := fun b e q1 q2 => by
    refine hkp2 b e (fun z => ?_) (fun z => ?_) q1
    · subst z
      obtain ⟨fs9, hO9, -⟩ := ck
      rw [hO9] at q1
      cases q1
      exact absurd q2 (jnot_of rfl)
    · subst z
      rw [cA] at q1
      cases q1
      exact absurd q2 (jnot_of rfl)
  have hr : jRL _ ax am := ⟨jrs.walked hww (by omega) hrows hsp ht1 ⟨hw1.keep he5 (jnot_of rfl), (cmd.mono he.1).mono he5.1, he5.2 _ _ hmd2 (jnot_of rfl), (ctr.mono he.1).mono he5.1⟩ ⟨hw0, rgr.mono he5.1, rmn.mono he5.1, rsp.mono he5.1, hGr, hM2, he5.2 _ _ rSP (jnot_of rfl)⟩ (((ht1.same (fun b hb => by obtain ⟨g8, n8, S8, X8, Y8, Z8, t8, -⟩ := id ht1; obtain ⟨e8, p8, r8⟩ := jrw.mem t8 b hb; exact (hkq b e8 p8 r8).trans p8.symm))).keep he5 (jdis_of rfl)) hn5 (by rw [hGk]; exact hj2.keep he5 (jdis_of rfl)) (by rw [hGk]; exact cG) hMk hGo hMo (fun b e q1 q2 => he5.2 b e (hkq b e q1 q2) (jdis_of rfl _ q2)), (hp.own he (jnot_of rfl) (jnot_of rfl) (jnot_of rfl)).core he5.1 (jkc.of he5 (jnot_of rfl)) (hkp.sub (by decide)) (fun a f q => he5.2 a _ q (jnot_of rfl)), (hff.mono he.1).mono he5.1⟩
  refine J_pop dL_law_163 rfl ?_
  refine J_goto (tgt := 908) dL_law_164 (by decide) ?_
  exact J.less (kc' := 5 * N + 8 * G2) (ks' := 491 * N + 20013 * G2) (by omega) (by omega) (kk _ G2 hW hx hm hg hr hc hG2)
set_option maxRecDepth 100000 in
set_option maxHeartbeats 4000000 in
theorem lawc_1 {tS : jTS} {b L : Nat} {xs : Nat → Int32} (hs9 : tS.2 = some (b, L, xs)) (V : jH) (ax am : Nat) (i : Int32) (G N : Nat) {Q : Option Value → jH → Prop} (hW : WT V) (hx : jis V (.inr 4) ax) (hm : jis V (.inr 5) am) (hg : jphi V ax G) (hr : jRL V ax am) (hc : jTX V ax am) (hin1 : vp_in (i + 1) L) (hin2 : vp_in (i + 2) L) (hin3 : vp_in (i + 3) L) (kk : ∀ (V2 : jH) (G2 : Nat), WT V2 → jis V2 (.inr 4) ax → jis V2 (.inr 5) am → jphi V2 ax G2 → jRL V2 ax am → jTX V2 ax am → G2 ≤ G → J tS mL_law 1000 908 [some (.ref b), some (.ref ax), some (.ref am), some (.int i)] [] V2 (5 * N + 8 * G2) (491 * N + 20013 * G2) Q) : J tS mL_law 1000 167 [some (.ref b), some (.ref ax), some (.ref am), some (.int i)] [] V (5 * (N + 1) + 8 * G) (491 * (N + 1) + 20013 * G) Q := by
  refine J_aload_n dL_law_167 rfl ?_
  refine J_aload_n dL_law_168 rfl ?_
  refine J_iload_n dL_law_169 rfl ?_
  refine J_iconst (v := 1) dL_law_170 (by decide) ?_
  refine J_iadd dL_law_171 ?_
  refine J_sld hs9 dL_law_172 hin1 ?_
  refine J_aload_n dL_law_173 rfl ?_
  refine J_iload_n dL_law_174 rfl ?_
  refine J_iconst (v := 2) dL_law_175 (by decide) ?_
  refine J_iadd dL_law_176 ?_
  refine J_sld hs9 dL_law_177 hin2 ?_
  obtain ⟨hs, hp, hff⟩ := id hr
  obtain ⟨k, md, gr, mn, sp, f, GA, MN, SP, A, T, hc1, hr1, ht1, hk, hrows, hsp⟩ := id hs
  obtain ⟨ck, cmd, cA, ctr⟩ := id hc1
  obtain ⟨rk, rgr, rmn, rsp, rGA, rMN, rSP⟩ := id hr1
  obtain ⟨rw, px, py, pz, RW, PX, PY, PZ, q4, q6, q7, q8, b4, b6, b7, b8⟩ := WT_ref hW hm
  by_cases cW : 0 ≤ (xs (i + 1).toNatClampNeg).toInt ∧ (xs (i + 1).toNatClampNeg).toInt < k.toInt
  rotate_left
  · skip
    refine Jw_callV2 (q9 := (RX6, TX6, 7)) moX6_step jw_ml_L_18 jw_im_X6_step jw_se_X6_step hx rfl rfl dL_law_178 (w_X6_step_out 999 _ ax (xs (i + 1).toNatClampNeg) (xs (i + 2).toNatClampNeg) k md (by decide) hW hx ck cmd cW) (by decide) (Nat.zero_le _) (Nat.zero_le _) (Nat.le_of_ble_eq_true rfl) (fun r V4 h => ?_)
    obtain ⟨⟨y1, rfl, -, -, hy1⟩, hE⟩ := h
    have hE := hE.symm
    subst hE
    refine J.less (kc' := 5 * N + 8 * G) (ks' := 491 * N + 20013 * G) (by omega) (by omega) ?_
    obtain ⟨G2, hGe⟩ : ∃ G2 : Nat, G2 = G := ⟨_, rfl⟩
    have hG2 : G2 ≤ G := Nat.le_of_eq hGe
    rw [← hGe] at hg ⊢
    refine J_pop dL_law_181 rfl ?_
    refine J_aload_n dL_law_182 rfl ?_
    refine J_aload_n dL_law_183 rfl ?_
    refine J_iload_n dL_law_184 rfl ?_
    refine J_iconst (v := 1) dL_law_185 (by decide) ?_
    refine J_iadd dL_law_186 ?_
    refine J_sld hs9 dL_law_187 hin1 ?_
    refine J_aload_n dL_law_188 rfl ?_
    refine J_iload_n dL_law_189 rfl ?_
    refine J_iconst (v := 2) dL_law_190 (by decide) ?_
    refine J_iadd dL_law_191 ?_
    refine J_sld hs9 dL_law_192 hin2 ?_
    refine Jw_callV2 (q9 := (RX7, TX7, 34)) moX7_step jw_ml_L_22 jw_im_X7_step jw_se_X7_step hm rfl rfl dL_law_193 (w_X7_step_bad 999 _ am (xs (i + 1).toNatClampNeg) (xs (i + 2).toNatClampNeg) k gr mn sp rw px py pz GA MN SP RW PX PY PZ (by decide) hW hm rk rgr rmn rsp q4 q6 q7 q8 rGA rMN rSP b4 b6 b7 b8 (fun q => cW ⟨q.1, q.2.1⟩)) (by decide) (Nat.zero_le _) (Nat.zero_le _) (Nat.le_of_ble_eq_true rfl) (fun r V3 h => ?_)
    obtain ⟨⟨y2, rfl, -, -, hy2⟩, hE⟩ := h
    have hE := hE.symm
    subst hE
    refine J_pop dL_law_196 rfl ?_
    refine J_goto (tgt := 908) dL_law_197 (by decide) ?_
    exact J.less (kc' := 5 * N + 8 * G2) (ks' := 491 * N + 20013 * G2) (by omega) (by omega) (kk _ G2 hW hx hm hg hr hc hG2)
  have hw9 : (((xs (i + 1).toNatClampNeg).toInt.toNat : Nat) : Int) < k.toInt := by omega
  obtain ⟨S, X, Y, Z, hfo, hrow, hwv⟩ := hrows (xs (i + 1).toNatClampNeg).toInt.toNat hw9
  obtain ⟨⟨M, mM, eM⟩, ⟨g, mg, eg⟩, ⟨n, nn, en⟩, s1, s2, s3, s4, a1, a2, a3, a4⟩ := id hrow
  obtain rfl := jI_inj.mp eg
  obtain rfl := jI_inj.mp en
  obtain ⟨hg9, hn9, hst, hjv, hav⟩ := id hwv
  have hTS : ∀ q : Nat, q < (MN (xs (i + 1).toNatClampNeg).toInt.toNat).toInt.toNat → (S q).toInt = (SP (60 * (xs (i + 1).toNatClampNeg).toInt.toNat + q)).toInt := fun q hq => (hst q (by omega)).1
  have hSr : ∀ j : Nat, (j : Int) < (MN (xs (i + 1).toNatClampNeg).toInt.toNat).toInt → 0 ≤ (S j).toInt ∧ (S j).toInt < jdir (GA (xs (i + 1).toNatClampNeg).toInt.toNat).toInt := fun j hj => by rw [(hst j hj).1]; exact (hst j hj).2
  have hPr : ∀ j : Nat, (j : Int) < (MN (xs (i + 1).toNatClampNeg).toInt.toNat).toInt → 0 ≤ (SP (60 * (xs (i + 1).toNatClampNeg).toInt.toNat + j)).toInt ∧ (SP (60 * (xs (i + 1).toNatClampNeg).toInt.toNat + j)).toInt < jdir (GA (xs (i + 1).toNatClampNeg).toInt.toNat).toInt := fun j hj => (hst j hj).2
  have hjvS := hjv.congr (U := fun q => (S q).toInt) (fun q hq => (hTS q hq).symm)
  have havS := hav.congr (U := fun q => (S q).toInt) (fun q hq => (hTS q hq).symm)
  by_cases cD : 0 ≤ (xs (i + 2).toNatClampNeg).toInt ∧ (xs (i + 2).toNatClampNeg).toInt < jdir (GA ((xs (i + 1).toNatClampNeg).toInt.toNat)).toInt
  rotate_left
  · skip
    refine Jw_callV2 (q9 := (RX6, TX6, 7)) moX6_step jw_ml_L_18 jw_im_X6_step jw_se_X6_step hx rfl rfl dL_law_178 (w_X6_step_bad 999 _ ax (xs (i + 1).toNatClampNeg) (xs (i + 2).toNatClampNeg) k md f (A ((xs (i + 1).toNatClampNeg).toInt.toNat)).1 M (GA ((xs (i + 1).toNatClampNeg).toInt.toNat)) (MN ((xs (i + 1).toNatClampNeg).toInt.toNat)) (A ((xs (i + 1).toNatClampNeg).toInt.toNat)).2.1 (A ((xs (i + 1).toNatClampNeg).toInt.toNat)).2.2.1 (A ((xs (i + 1).toNatClampNeg).toInt.toNat)).2.2.2.1 (A ((xs (i + 1).toNatClampNeg).toInt.toNat)).2.2.2.2 S X Y Z (by decide) hW hx ck cmd cA mM mg nn s1 s2 s3 s4 a1 a2 a3 a4 eM hn9.2 hfo cW.1 cW.2 hg9.1 hg9.2 cD) (by decide) (Nat.zero_le _) (Nat.zero_le _) (Nat.le_of_ble_eq_true rfl) (fun r V4 h => ?_)
    obtain ⟨⟨y1, rfl, -, -, hy1⟩, hE⟩ := h
    have hE := hE.symm
    subst hE
    refine J.less (kc' := 5 * N + 8 * G) (ks' := 491 * N + 20013 * G) (by omega) (by omega) ?_
    obtain ⟨G2, hGe⟩ : ∃ G2 : Nat, G2 = G := ⟨_, rfl⟩
    have hG2 : G2 ≤ G := Nat.le_of_eq hGe
    rw [← hGe] at hg ⊢
    refine J_pop dL_law_181 rfl ?_
    refine J_aload_n dL_law_182 rfl ?_
    refine J_aload_n dL_law_183 rfl ?_
    refine J_iload_n dL_law_184 rfl ?_
    refine J_iconst (v := 1) dL_law_185 (by decide) ?_
    refine J_iadd dL_law_186 ?_
    refine J_sld hs9 dL_law_187 hin1 ?_
    refine J_aload_n dL_law_188 rfl ?_
    refine J_iload_n dL_law_189 rfl ?_
    refine J_iconst (v := 2) dL_law_190 (by decide) ?_
    refine J_iadd dL_law_191 ?_
    refine J_sld hs9 dL_law_192 hin2 ?_
    refine Jw_callV2 (q9 := (RX7, TX7, 34)) moX7_step jw_ml_L_22 jw_im_X7_step jw_se_X7_step hm rfl rfl dL_law_193 (w_X7_step_bad 999 _ am (xs (i + 1).toNatClampNeg) (xs (i + 2).toNatClampNeg) k gr mn sp rw px py pz GA MN SP RW PX PY PZ (by decide) hW hm rk rgr rmn rsp q4 q6 q7 q8 rGA rMN rSP b4 b6 b7 b8 (fun q => cD ⟨q.2.2.1, q.2.2.2⟩)) (by decide) (Nat.zero_le _) (Nat.zero_le _) (Nat.le_of_ble_eq_true rfl) (fun r V3 h => ?_)
    obtain ⟨⟨y2, rfl, -, -, hy2⟩, hE⟩ := h
    have hE := hE.symm
    subst hE
    refine J_pop dL_law_196 rfl ?_
    refine J_goto (tgt := 908) dL_law_197 (by decide) ?_
    exact J.less (kc' := 5 * N + 8 * G2) (ks' := 491 * N + 20013 * G2) (by omega) (by omega) (kk _ G2 hW hx hm hg hr hc hG2)
  have hcg : ∀ q : Nat, jTs (fun q => (S q).toInt) (MN ((xs (i + 1).toNatClampNeg).toInt.toNat)).toInt.toNat (xs (i + 2).toNatClampNeg).toInt q = jTs (fun q => (SP (60 * ((xs (i + 1).toNatClampNeg).toInt.toNat) + q)).toInt) (MN ((xs (i + 1).toNatClampNeg).toInt.toNat)).toInt.toNat (xs (i + 2).toNatClampNeg).toInt q := jTs_congr hTS
  have havT : jav (GA ((xs (i + 1).toNatClampNeg).toInt.toNat)).toInt (jTs (fun q => (S q).toInt) (MN ((xs (i + 1).toNatClampNeg).toInt.toNat)).toInt.toNat (xs (i + 2).toNatClampNeg).toInt) (MN ((xs (i + 1).toNatClampNeg).toInt.toNat)).toInt.toNat := havS.congr (fun q hq => by unfold jTs; rw [if_pos hq])
  by_cases cJ : jav (GA ((xs (i + 1).toNatClampNeg).toInt.toNat)).toInt (jTs (fun q => (S q).toInt) (MN ((xs (i + 1).toNatClampNeg).toInt.toNat)).toInt.toNat (xs (i + 2).toNatClampNeg).toInt) ((MN ((xs (i + 1).toNatClampNeg).toInt.toNat)).toInt.toNat + 1)
  rotate_left
  · skip
    refine Jw_callV2 (q9 := (RX6, TX6, 7)) moX6_step jw_ml_L_18 jw_im_X6_step jw_se_X6_step hx rfl rfl dL_law_178 (w_X6_step_no 999 _ ax (xs (i + 1).toNatClampNeg) (xs (i + 2).toNatClampNeg) k md f (A ((xs (i + 1).toNatClampNeg).toInt.toNat)).1 M (GA ((xs (i + 1).toNatClampNeg).toInt.toNat)) (MN ((xs (i + 1).toNatClampNeg).toInt.toNat)) (A ((xs (i + 1).toNatClampNeg).toInt.toNat)).2.1 (A ((xs (i + 1).toNatClampNeg).toInt.toNat)).2.2.1 (A ((xs (i + 1).toNatClampNeg).toInt.toNat)).2.2.2.1 (A ((xs (i + 1).toNatClampNeg).toInt.toNat)).2.2.2.2 S X Y Z (by decide) hW hx ck cmd cA mM mg nn s1 s2 s3 s4 a1 a2 a3 a4 eM hn9.2 hfo cW.1 cW.2 hg9.1 hg9.2 cD.1 cD.2 hjvS havT cJ) (by decide) (Nat.zero_le _) (Nat.zero_le _) (Nat.le_of_ble_eq_true rfl) (fun r V4 h => ?_)
    obtain ⟨⟨y1, rfl, -, -, hy1⟩, hE⟩ := h
    have hE := hE.symm
    subst hE
    refine J.less (kc' := 5 * N + 8 * G) (ks' := 491 * N + 20013 * G) (by omega) (by omega) ?_
    obtain ⟨G2, hGe⟩ : ∃ G2 : Nat, G2 = G := ⟨_, rfl⟩
    have hG2 : G2 ≤ G := Nat.le_of_eq hGe
    rw [← hGe] at hg ⊢
    refine J_pop dL_law_181 rfl ?_
    refine J_aload_n dL_law_182 rfl ?_
    refine J_aload_n dL_law_183 rfl ?_
    refine J_iload_n dL_law_184 rfl ?_
    refine J_iconst (v := 1) dL_law_185 (by decide) ?_
    refine J_iadd dL_law_186 ?_
    refine J_sld hs9 dL_law_187 hin1 ?_
    refine J_aload_n dL_law_188 rfl ?_
    refine J_iload_n dL_law_189 rfl ?_
    refine J_iconst (v := 2) dL_law_190 (by decide) ?_
    refine J_iadd dL_law_191 ?_
    refine J_sld hs9 dL_law_192 hin2 ?_
    refine Jw_callV2 (q9 := (RX7, TX7, 34)) moX7_step jw_ml_L_22 jw_im_X7_step jw_se_X7_step hm rfl rfl dL_law_193 (w_X7_step_no 999 _ am (xs (i + 1).toNatClampNeg) (xs (i + 2).toNatClampNeg) k gr mn sp rw px py pz GA MN SP RW PX PY PZ (by decide) hW hm rk rgr rmn rsp q4 q6 q7 q8 rGA rMN rSP b4 b6 b7 b8 cW.1 cW.2 cD.1 cD.2 (fun h => cJ (h.congr (fun q _ => (hcg q).symm)))) (by decide) (Nat.zero_le _) (Nat.zero_le _) (Nat.le_of_ble_eq_true rfl) (fun r V3 h => ?_)
    obtain ⟨⟨hW, he5, y2, rfl, -, -, hy2⟩, hkp⟩ := h
    have hx := hx.mono he5.1
    have hm := hm.mono he5.1
    have hg := hg.keep he5 (jnot_of rfl) (jnot_of rfl)
    have hc := hc.keep he5 (jdis_of rfl)
    have hr := hr.ref he5 hkp (by decide) (jdis_of rfl)
    refine J_pop dL_law_196 rfl ?_
    refine J_goto (tgt := 908) dL_law_197 (by decide) ?_
    exact J.less (kc' := 5 * N + 8 * G2) (ks' := 491 * N + 20013 * G2) (by omega) (by omega) (kk _ G2 hW hx hm hg hr hc hG2)
  have cJr := cJ.congr (fun q _ => hcg q)
  by_cases cF : (MN ((xs (i + 1).toNatClampNeg).toInt.toNat)).toInt = 60
  · skip
    refine Jw_callV2 (q9 := (RX6, TX6, 7)) moX6_step jw_ml_L_18 jw_im_X6_step jw_se_X6_step hx rfl rfl dL_law_178 (w_X6_step_full 999 _ ax (xs (i + 1).toNatClampNeg) (xs (i + 2).toNatClampNeg) k md f (A ((xs (i + 1).toNatClampNeg).toInt.toNat)).1 M (GA ((xs (i + 1).toNatClampNeg).toInt.toNat)) (MN ((xs (i + 1).toNatClampNeg).toInt.toNat)) (A ((xs (i + 1).toNatClampNeg).toInt.toNat)).2.1 (A ((xs (i + 1).toNatClampNeg).toInt.toNat)).2.2.1 (A ((xs (i + 1).toNatClampNeg).toInt.toNat)).2.2.2.1 (A ((xs (i + 1).toNatClampNeg).toInt.toNat)).2.2.2.2 S X Y Z (by decide) hW hx ck cmd cA mM mg nn s1 s2 s3 s4 a1 a2 a3 a4 eM hn9.2 hfo cW.1 cW.2 hg9.1 hg9.2 cD.1 cD.2 hjvS cJ cF) (by decide) (Nat.zero_le _) (Nat.zero_le _) (Nat.le_of_ble_eq_true rfl) (fun r V4 h => ?_)
    obtain ⟨⟨y1, rfl, -, -, hy1⟩, hE⟩ := h
    have hE := hE.symm
    subst hE
    refine J.less (kc' := 5 * N + 8 * G) (ks' := 491 * N + 20013 * G) (by omega) (by omega) ?_
    obtain ⟨G2, hGe⟩ : ∃ G2 : Nat, G2 = G := ⟨_, rfl⟩
    have hG2 : G2 ≤ G := Nat.le_of_eq hGe
    rw [← hGe] at hg ⊢
    refine J_pop dL_law_181 rfl ?_
    refine J_aload_n dL_law_182 rfl ?_
    refine J_aload_n dL_law_183 rfl ?_
    refine J_iload_n dL_law_184 rfl ?_
    refine J_iconst (v := 1) dL_law_185 (by decide) ?_
    refine J_iadd dL_law_186 ?_
    refine J_sld hs9 dL_law_187 hin1 ?_
    refine J_aload_n dL_law_188 rfl ?_
    refine J_iload_n dL_law_189 rfl ?_
    refine J_iconst (v := 2) dL_law_190 (by decide) ?_
    refine J_iadd dL_law_191 ?_
    refine J_sld hs9 dL_law_192 hin2 ?_
    refine Jw_callV2 (q9 := (RX7, TX7, 34)) moX7_step jw_ml_L_22 jw_im_X7_step jw_se_X7_step hm rfl rfl dL_law_193 (w_X7_step_full 999 _ am (xs (i + 1).toNatClampNeg) (xs (i + 2).toNatClampNeg) k gr mn sp rw px py pz GA MN SP RW PX PY PZ (by decide) hW hm rk rgr rmn rsp q4 q6 q7 q8 rGA rMN rSP b4 b6 b7 b8 cW.1 cW.2 cD.1 cD.2 cJr cF) (by decide) (Nat.zero_le _) (Nat.zero_le _) (Nat.le_of_ble_eq_true rfl) (fun r V3 h => ?_)
    obtain ⟨⟨hW, he5, y2, rfl, -, -, hy2⟩, hkp⟩ := h
    have hx := hx.mono he5.1
    have hm := hm.mono he5.1
    have hg := hg.keep he5 (jnot_of rfl) (jnot_of rfl)
    have hc := hc.keep he5 (jdis_of rfl)
    have hr := hr.ref he5 hkp (by decide) (jdis_of rfl)
    refine J_pop dL_law_196 rfl ?_
    refine J_goto (tgt := 908) dL_law_197 (by decide) ?_
    exact J.less (kc' := 5 * N + 8 * G2) (ks' := 491 * N + 20013 * G2) (by omega) (by omega) (kk _ G2 hW hx hm hg hr hc hG2)
  refine Jw_callV2 (q9 := (RX6, TX6, 7)) moX6_step jw_ml_L_18 jw_im_X6_step jw_se_X6_step hx rfl rfl dL_law_178 (w_X6_step_ok 999 _ ax (xs (i + 1).toNatClampNeg) (xs (i + 2).toNatClampNeg) k md f (A ((xs (i + 1).toNatClampNeg).toInt.toNat)).1 M (GA ((xs (i + 1).toNatClampNeg).toInt.toNat)) (MN ((xs (i + 1).toNatClampNeg).toInt.toNat)) (A ((xs (i + 1).toNatClampNeg).toInt.toNat)).2.1 (A ((xs (i + 1).toNatClampNeg).toInt.toNat)).2.2.1 (A ((xs (i + 1).toNatClampNeg).toInt.toNat)).2.2.2.1 (A ((xs (i + 1).toNatClampNeg).toInt.toNat)).2.2.2.2 S X Y Z (by decide) hW hx ck cmd cA mM mg nn s1 s2 s3 s4 a1 a2 a3 a4 eM hn9.2 hfo cW.1 cW.2 hg9.1 hg9.2 cD.1 cD.2 hjvS cJ (by omega)) (by decide) (Nat.zero_le _) (Nat.zero_le _) (Nat.le_of_ble_eq_true rfl) (fun r V4 h => ?_)
  obtain ⟨⟨hW, he, y1, rfl, -, -, hy1⟩, ⟨S2, X2, Y2, Z2, hj2, hS2, hv2⟩, hfp⟩ := h
  have hx := hx.mono he.1
  have hm := hm.mono he.1
  have hg := hg.keep he (jnot_of rfl) (jnot_of rfl)
  have hc := hc.keep he (jdis_of rfl)
  have rk := rk.keep he (jnot_of rfl)
  have rgr := rgr.mono he.1
  have rmn := rmn.mono he.1
  have rsp := rsp.mono he.1
  have q4 := q4.mono he.1
  have q6 := q6.mono he.1
  have q7 := q7.mono he.1
  have q8 := q8.mono he.1
  have rGA := he.2 _ _ rGA (jnot_of rfl)
  have rMN := he.2 _ _ rMN (jnot_of rfl)
  have rSP := he.2 _ _ rSP (jnot_of rfl)
  have b4 := he.2 _ _ b4 (jnot_of rfl)
  have b6 := he.2 _ _ b6 (jnot_of rfl)
  have b7 := he.2 _ _ b7 (jnot_of rfl)
  have b8 := he.2 _ _ b8 (jnot_of rfl)
  have hwv2 : jwv (GA ((xs (i + 1).toNatClampNeg).toInt.toNat)).toInt ((MN ((xs (i + 1).toNatClampNeg).toInt.toNat)).toInt + 1) (jTs (fun q => (S q).toInt) (MN ((xs (i + 1).toNatClampNeg).toInt.toNat)).toInt.toNat (xs (i + 2).toNatClampNeg).toInt) S2 X2 Y2 Z2 := jwv.mk hg9 (by omega) (by omega) hS2 (jTs_rng hn9.1 hSr cD) hv2 (by rw [show ((MN ((xs (i + 1).toNatClampNeg).toInt.toNat)).toInt + 1).toNat = (MN ((xs (i + 1).toNatClampNeg).toInt.toNat)).toInt.toNat + 1 by omega]; exact cJ)
  have hL : ∀ b : Nat, b ∉ jadl (A ((xs (i + 1).toNatClampNeg).toInt.toNat)) → b ∉ jadl T → V4 b = V b := fun b q _ => hfp b q
  have ht4 : jtr1 V4 T := by
    obtain ⟨gT9, nT9, ST, XT, YT, ZT, htr, -⟩ := id ht1
    exact ht1.same (fun b hb => hfp b (fun z => jdisj htr hrow (hsp.2 _ hw9).symm b hb z))
  refine J.less (kc' := 5 * N + 8 * G) (ks' := 491 * N + 20013 * G) (by omega) (by omega) ?_
  obtain ⟨G2, hGe⟩ : ∃ G2 : Nat, G2 = G := ⟨_, rfl⟩
  have hG2 : G2 ≤ G := Nat.le_of_eq hGe
  rw [← hGe] at hg ⊢
  refine J_pop dL_law_181 rfl ?_
  refine J_aload_n dL_law_182 rfl ?_
  refine J_aload_n dL_law_183 rfl ?_
  refine J_iload_n dL_law_184 rfl ?_
  refine J_iconst (v := 1) dL_law_185 (by decide) ?_
  refine J_iadd dL_law_186 ?_
  refine J_sld hs9 dL_law_187 hin1 ?_
  refine J_aload_n dL_law_188 rfl ?_
  refine J_iload_n dL_law_189 rfl ?_
  refine J_iconst (v := 2) dL_law_190 (by decide) ?_
  refine J_iadd dL_law_191 ?_
  refine J_sld hs9 dL_law_192 hin2 ?_
  refine Jw_callV2 (q9 := (RX7, TX7, 34)) moX7_step jw_ml_L_22 jw_im_X7_step jw_se_X7_step hm rfl rfl dL_law_193 (w_X7_step_ok 999 _ am (xs (i + 1).toNatClampNeg) (xs (i + 2).toNatClampNeg) k gr mn sp rw px py pz GA MN SP RW PX PY PZ (by decide) hW hm rk rgr rmn rsp q4 q6 q7 q8 rGA rMN rSP b4 b6 b7 b8 cW.1 cW.2 cD.1 cD.2 cJr (by omega)) (by decide) (Nat.zero_le _) (Nat.zero_le _) (Nat.le_of_ble_eq_true rfl) (fun r V3 h => ?_)
  obtain ⟨⟨hW, he5, y2, rfl, -, -, hy2⟩, ⟨M2, hM2, hMw, hMo⟩, ⟨P2, hP2, hPw, hPo⟩, hkp⟩ := h
  have hx := hx.mono he5.1
  have hm := hm.mono he5.1
  have hg := hg.keep he5 (jnot_of rfl) (jnot_of rfl)
  have hc := hc.keep he5 (jdis_of rfl)
  have hr : jRL _ ax am := ⟨jrs.done hc1 hk hrows hsp ht1 hw9 he (jnot_of rfl) (jnot_of rfl) hL ht4 he5 (jdis_of rfl) (jnot_of rfl) (jnot_of rfl) ⟨rk.kp hkp (by decide), rgr.mono he5.1, rmn.mono he5.1, rsp.mono he5.1, he5.2 _ _ rGA (jnot_of rfl), hM2, hP2⟩ hMw hMo (fun j hj => by rw [hPw j hj]; exact (hcg j).symm) hPo hfo hj2 hwv2, (hp.own he (jnot_of rfl) (jnot_of rfl) (jnot_of rfl)).ref he5 (jnot_of rfl) hkp (by decide) (jnot_of rfl), (hff.mono he.1).mono he5.1⟩
  refine J_pop dL_law_196 rfl ?_
  refine J_goto (tgt := 908) dL_law_197 (by decide) ?_
  exact J.less (kc' := 5 * N + 8 * G2) (ks' := 491 * N + 20013 * G2) (by omega) (by omega) (kk _ G2 hW hx hm hg hr hc hG2)
set_option maxRecDepth 100000 in
set_option maxHeartbeats 4000000 in
theorem lawc_2 {tS : jTS} {b L : Nat} {xs : Nat → Int32} (hs9 : tS.2 = some (b, L, xs)) (V : jH) (ax am : Nat) (i : Int32) (G N : Nat) {Q : Option Value → jH → Prop} (hW : WT V) (hx : jis V (.inr 4) ax) (hm : jis V (.inr 5) am) (hg : jphi V ax G) (hr : jRL V ax am) (hc : jTX V ax am) (hin1 : vp_in (i + 1) L) (hin2 : vp_in (i + 2) L) (hin3 : vp_in (i + 3) L) (kk : ∀ (V2 : jH) (G2 : Nat), WT V2 → jis V2 (.inr 4) ax → jis V2 (.inr 5) am → jphi V2 ax G2 → jRL V2 ax am → jTX V2 ax am → G2 ≤ G → J tS mL_law 1000 908 [some (.ref b), some (.ref ax), some (.ref am), some (.int i)] [] V2 (5 * N + 8 * G2) (491 * N + 20013 * G2) Q) : J tS mL_law 1000 200 [some (.ref b), some (.ref ax), some (.ref am), some (.int i)] [] V (5 * (N + 1) + 8 * G) (491 * (N + 1) + 20013 * G) Q := by
  refine J_aload_n dL_law_200 rfl ?_
  refine J_aload_n dL_law_201 rfl ?_
  refine J_iload_n dL_law_202 rfl ?_
  refine J_iconst (v := 1) dL_law_203 (by decide) ?_
  refine J_iadd dL_law_204 ?_
  refine J_sld hs9 dL_law_205 hin1 ?_
  refine J_aload_n dL_law_206 rfl ?_
  refine J_iload_n dL_law_207 rfl ?_
  refine J_iconst (v := 2) dL_law_208 (by decide) ?_
  refine J_iadd dL_law_209 ?_
  refine J_sld hs9 dL_law_210 hin2 ?_
  obtain ⟨hs, hp, hff⟩ := id hr
  obtain ⟨k, md, gr, mn, sp, f, GA, MN, SP, A, T, hc1, hr1, ht1, hk, hrows, hsp⟩ := id hs
  obtain ⟨ck, cmd, cA, ctr⟩ := id hc1
  obtain ⟨rk, rgr, rmn, rsp, rGA, rMN, rSP⟩ := id hr1
  obtain ⟨rw, px, py, pz, RW, PX, PY, PZ, q4, q6, q7, q8, b4, b6, b7, b8⟩ := WT_ref hW hm
  by_cases cW : 0 ≤ (xs (i + 1).toNatClampNeg).toInt ∧ (xs (i + 1).toNatClampNeg).toInt < k.toInt
  rotate_left
  · skip
    refine Jw_callV2 (q9 := (RX6, TX6, 7)) moX6_back jw_ml_L_23 jw_im_X6_back jw_se_X6_back hx rfl rfl dL_law_211 (w_X6_back_out 999 _ ax (xs (i + 1).toNatClampNeg) (xs (i + 2).toNatClampNeg) k md (by decide) hW hx ck cmd cW) (by decide) (Nat.zero_le _) (Nat.zero_le _) (Nat.le_of_ble_eq_true rfl) (fun r V4 h => ?_)
    obtain ⟨⟨y1, rfl, -, -, hy1⟩, hE⟩ := h
    have hE := hE.symm
    subst hE
    refine J.less (kc' := 5 * N + 8 * G) (ks' := 491 * N + 20013 * G) (by omega) (by omega) ?_
    obtain ⟨G2, hGe⟩ : ∃ G2 : Nat, G2 = G := ⟨_, rfl⟩
    have hG2 : G2 ≤ G := Nat.le_of_eq hGe
    rw [← hGe] at hg ⊢
    refine J_pop dL_law_214 rfl ?_
    refine J_aload_n dL_law_215 rfl ?_
    refine J_aload_n dL_law_216 rfl ?_
    refine J_iload_n dL_law_217 rfl ?_
    refine J_iconst (v := 1) dL_law_218 (by decide) ?_
    refine J_iadd dL_law_219 ?_
    refine J_sld hs9 dL_law_220 hin1 ?_
    refine J_aload_n dL_law_221 rfl ?_
    refine J_iload_n dL_law_222 rfl ?_
    refine J_iconst (v := 2) dL_law_223 (by decide) ?_
    refine J_iadd dL_law_224 ?_
    refine J_sld hs9 dL_law_225 hin2 ?_
    refine Jw_callV2 (q9 := (RX7, TX7, 34)) moX7_back jw_ml_L_26 jw_im_X7_back jw_se_X7_back hm rfl rfl dL_law_226 (w_X7_back_bad 999 _ am (xs (i + 1).toNatClampNeg) (xs (i + 2).toNatClampNeg) k gr mn sp rw px py pz GA MN SP RW PX PY PZ (by decide) hW hm rk rgr rmn rsp q4 q6 q7 q8 rGA rMN rSP b4 b6 b7 b8 (fun q => cW ⟨q.1, q.2.1⟩)) (by decide) (Nat.zero_le _) (Nat.zero_le _) (Nat.le_of_ble_eq_true rfl) (fun r V3 h => ?_)
    obtain ⟨⟨y2, rfl, -, -, hy2⟩, hE⟩ := h
    have hE := hE.symm
    subst hE
    refine J_pop dL_law_229 rfl ?_
    refine J_goto (tgt := 908) dL_law_230 (by decide) ?_
    exact J.less (kc' := 5 * N + 8 * G2) (ks' := 491 * N + 20013 * G2) (by omega) (by omega) (kk _ G2 hW hx hm hg hr hc hG2)
  have hw9 : (((xs (i + 1).toNatClampNeg).toInt.toNat : Nat) : Int) < k.toInt := by omega
  obtain ⟨S, X, Y, Z, hfo, hrow, hwv⟩ := hrows (xs (i + 1).toNatClampNeg).toInt.toNat hw9
  obtain ⟨⟨M, mM, eM⟩, ⟨g, mg, eg⟩, ⟨n, nn, en⟩, s1, s2, s3, s4, a1, a2, a3, a4⟩ := id hrow
  obtain rfl := jI_inj.mp eg
  obtain rfl := jI_inj.mp en
  obtain ⟨hg9, hn9, hst, hjv, hav⟩ := id hwv
  have hTS : ∀ q : Nat, q < (MN (xs (i + 1).toNatClampNeg).toInt.toNat).toInt.toNat → (S q).toInt = (SP (60 * (xs (i + 1).toNatClampNeg).toInt.toNat + q)).toInt := fun q hq => (hst q (by omega)).1
  have hSr : ∀ j : Nat, (j : Int) < (MN (xs (i + 1).toNatClampNeg).toInt.toNat).toInt → 0 ≤ (S j).toInt ∧ (S j).toInt < jdir (GA (xs (i + 1).toNatClampNeg).toInt.toNat).toInt := fun j hj => by rw [(hst j hj).1]; exact (hst j hj).2
  have hPr : ∀ j : Nat, (j : Int) < (MN (xs (i + 1).toNatClampNeg).toInt.toNat).toInt → 0 ≤ (SP (60 * (xs (i + 1).toNatClampNeg).toInt.toNat + j)).toInt ∧ (SP (60 * (xs (i + 1).toNatClampNeg).toInt.toNat + j)).toInt < jdir (GA (xs (i + 1).toNatClampNeg).toInt.toNat).toInt := fun j hj => (hst j hj).2
  have hjvS := hjv.congr (U := fun q => (S q).toInt) (fun q hq => (hTS q hq).symm)
  have havS := hav.congr (U := fun q => (S q).toInt) (fun q hq => (hTS q hq).symm)
  by_cases cD : 0 ≤ (xs (i + 2).toNatClampNeg).toInt ∧ (xs (i + 2).toNatClampNeg).toInt ≤ (MN ((xs (i + 1).toNatClampNeg).toInt.toNat)).toInt
  rotate_left
  · skip
    refine Jw_callV2 (q9 := (RX6, TX6, 7)) moX6_back jw_ml_L_23 jw_im_X6_back jw_se_X6_back hx rfl rfl dL_law_211 (w_X6_back_bad 999 _ ax (xs (i + 1).toNatClampNeg) (xs (i + 2).toNatClampNeg) k md f (A ((xs (i + 1).toNatClampNeg).toInt.toNat)).1 M (GA ((xs (i + 1).toNatClampNeg).toInt.toNat)) (MN ((xs (i + 1).toNatClampNeg).toInt.toNat)) (A ((xs (i + 1).toNatClampNeg).toInt.toNat)).2.1 (A ((xs (i + 1).toNatClampNeg).toInt.toNat)).2.2.1 (A ((xs (i + 1).toNatClampNeg).toInt.toNat)).2.2.2.1 (A ((xs (i + 1).toNatClampNeg).toInt.toNat)).2.2.2.2 S X Y Z (by decide) hW hx ck cmd cA mM mg nn s1 s2 s3 s4 a1 a2 a3 a4 eM hn9.2 hfo cW.1 cW.2 cD) (by decide) (Nat.zero_le _) (Nat.zero_le _) (Nat.le_of_ble_eq_true rfl) (fun r V4 h => ?_)
    obtain ⟨⟨y1, rfl, -, -, hy1⟩, hE⟩ := h
    have hE := hE.symm
    subst hE
    refine J.less (kc' := 5 * N + 8 * G) (ks' := 491 * N + 20013 * G) (by omega) (by omega) ?_
    obtain ⟨G2, hGe⟩ : ∃ G2 : Nat, G2 = G := ⟨_, rfl⟩
    have hG2 : G2 ≤ G := Nat.le_of_eq hGe
    rw [← hGe] at hg ⊢
    refine J_pop dL_law_214 rfl ?_
    refine J_aload_n dL_law_215 rfl ?_
    refine J_aload_n dL_law_216 rfl ?_
    refine J_iload_n dL_law_217 rfl ?_
    refine J_iconst (v := 1) dL_law_218 (by decide) ?_
    refine J_iadd dL_law_219 ?_
    refine J_sld hs9 dL_law_220 hin1 ?_
    refine J_aload_n dL_law_221 rfl ?_
    refine J_iload_n dL_law_222 rfl ?_
    refine J_iconst (v := 2) dL_law_223 (by decide) ?_
    refine J_iadd dL_law_224 ?_
    refine J_sld hs9 dL_law_225 hin2 ?_
    refine Jw_callV2 (q9 := (RX7, TX7, 34)) moX7_back jw_ml_L_26 jw_im_X7_back jw_se_X7_back hm rfl rfl dL_law_226 (w_X7_back_bad 999 _ am (xs (i + 1).toNatClampNeg) (xs (i + 2).toNatClampNeg) k gr mn sp rw px py pz GA MN SP RW PX PY PZ (by decide) hW hm rk rgr rmn rsp q4 q6 q7 q8 rGA rMN rSP b4 b6 b7 b8 (fun q => cD ⟨q.2.2.1, q.2.2.2⟩)) (by decide) (Nat.zero_le _) (Nat.zero_le _) (Nat.le_of_ble_eq_true rfl) (fun r V3 h => ?_)
    obtain ⟨⟨y2, rfl, -, -, hy2⟩, hE⟩ := h
    have hE := hE.symm
    subst hE
    refine J_pop dL_law_229 rfl ?_
    refine J_goto (tgt := 908) dL_law_230 (by decide) ?_
    exact J.less (kc' := 5 * N + 8 * G2) (ks' := 491 * N + 20013 * G2) (by omega) (by omega) (kk _ G2 hW hx hm hg hr hc hG2)
  refine Jw_callV2 (q9 := (RX6, TX6, 7)) moX6_back jw_ml_L_23 jw_im_X6_back jw_se_X6_back hx rfl rfl dL_law_211 (w_X6_back_ok 999 _ ax (xs (i + 1).toNatClampNeg) (xs (i + 2).toNatClampNeg) k md f (A ((xs (i + 1).toNatClampNeg).toInt.toNat)).1 M (GA ((xs (i + 1).toNatClampNeg).toInt.toNat)) (MN ((xs (i + 1).toNatClampNeg).toInt.toNat)) (A ((xs (i + 1).toNatClampNeg).toInt.toNat)).2.1 (A ((xs (i + 1).toNatClampNeg).toInt.toNat)).2.2.1 (A ((xs (i + 1).toNatClampNeg).toInt.toNat)).2.2.2.1 (A ((xs (i + 1).toNatClampNeg).toInt.toNat)).2.2.2.2 S X Y Z (by decide) hW hx ck cmd cA mM mg nn s1 s2 s3 s4 a1 a2 a3 a4 eM hn9.2 hfo cW.1 cW.2 cD.1 cD.2) (by decide) (Nat.zero_le _) (Nat.zero_le _) (Nat.le_of_ble_eq_true rfl) (fun r V4 h => ?_)
  obtain ⟨⟨hW, he, y1, rfl, -, -, hy1⟩, hj2, hfp⟩ := h
  have hx := hx.mono he.1
  have hm := hm.mono he.1
  have hg := hg.keep he (jnot_of rfl) (jnot_of rfl)
  have hc := hc.keep he (jdis_of rfl)
  have rk := rk.keep he (jnot_of rfl)
  have rgr := rgr.mono he.1
  have rmn := rmn.mono he.1
  have rsp := rsp.mono he.1
  have q4 := q4.mono he.1
  have q6 := q6.mono he.1
  have q7 := q7.mono he.1
  have q8 := q8.mono he.1
  have rGA := he.2 _ _ rGA (jnot_of rfl)
  have rMN := he.2 _ _ rMN (jnot_of rfl)
  have rSP := he.2 _ _ rSP (jnot_of rfl)
  have b4 := he.2 _ _ b4 (jnot_of rfl)
  have b6 := he.2 _ _ b6 (jnot_of rfl)
  have b7 := he.2 _ _ b7 (jnot_of rfl)
  have b8 := he.2 _ _ b8 (jnot_of rfl)
  have hwv2 : jwv (GA ((xs (i + 1).toNatClampNeg).toInt.toNat)).toInt ((MN ((xs (i + 1).toNatClampNeg).toInt.toNat)).toInt - (xs (i + 2).toNatClampNeg).toInt) (fun q => (SP (60 * ((xs (i + 1).toNatClampNeg).toInt.toNat) + q)).toInt) S X Y Z := ⟨hg9, by omega, fun j hj => hst j (by omega), hjv.cut (by omega), hav.mono (by omega)⟩
  have hL : ∀ b : Nat, b ∉ jadl (A ((xs (i + 1).toNatClampNeg).toInt.toNat)) → b ∉ jadl T → V4 b = V b := fun b q _ => hfp b (fun z => q (List.mem_cons.mpr (Or.inl (List.mem_singleton.mp z))))
  have ht4 : jtr1 V4 T := by
    obtain ⟨gT9, nT9, ST, XT, YT, ZT, htr, -⟩ := id ht1
    exact ht1.same (fun b hb => hfp b (fun z => jdisj htr hrow (hsp.2 _ hw9).symm b hb (List.mem_cons.mpr (Or.inl (List.mem_singleton.mp z)))))
  refine J.less (kc' := 5 * N + 8 * G) (ks' := 491 * N + 20013 * G) (by omega) (by omega) ?_
  obtain ⟨G2, hGe⟩ : ∃ G2 : Nat, G2 = G := ⟨_, rfl⟩
  have hG2 : G2 ≤ G := Nat.le_of_eq hGe
  rw [← hGe] at hg ⊢
  refine J_pop dL_law_214 rfl ?_
  refine J_aload_n dL_law_215 rfl ?_
  refine J_aload_n dL_law_216 rfl ?_
  refine J_iload_n dL_law_217 rfl ?_
  refine J_iconst (v := 1) dL_law_218 (by decide) ?_
  refine J_iadd dL_law_219 ?_
  refine J_sld hs9 dL_law_220 hin1 ?_
  refine J_aload_n dL_law_221 rfl ?_
  refine J_iload_n dL_law_222 rfl ?_
  refine J_iconst (v := 2) dL_law_223 (by decide) ?_
  refine J_iadd dL_law_224 ?_
  refine J_sld hs9 dL_law_225 hin2 ?_
  refine Jw_callV2 (q9 := (RX7, TX7, 34)) moX7_back jw_ml_L_26 jw_im_X7_back jw_se_X7_back hm rfl rfl dL_law_226 (w_X7_back_ok 999 _ am (xs (i + 1).toNatClampNeg) (xs (i + 2).toNatClampNeg) k gr mn sp rw px py pz GA MN SP RW PX PY PZ (by decide) hW hm rk rgr rmn rsp q4 q6 q7 q8 rGA rMN rSP b4 b6 b7 b8 cW.1 cW.2 cD.1 cD.2) (by decide) (Nat.zero_le _) (Nat.zero_le _) (Nat.le_of_ble_eq_true rfl) (fun r V3 h => ?_)
  obtain ⟨⟨hW, he5, y2, rfl, -, -, hy2⟩, ⟨M2, hM2, hMw, hMo⟩⟩ := h
  have hx := hx.mono he5.1
  have hm := hm.mono he5.1
  have hg := hg.keep he5 (jnot_of rfl) (jnot_of rfl)
  have hc := hc.keep he5 (jdis_of rfl)
  have hr : jRL _ ax am := ⟨jrs.done hc1 hk hrows hsp ht1 hw9 he (jnot_of rfl) (jnot_of rfl) hL ht4 he5 (jdis_of rfl) (jnot_of rfl) (jnot_of rfl) ⟨rk.keep he5 (jnot_of rfl), rgr.mono he5.1, rmn.mono he5.1, rsp.mono he5.1, he5.2 _ _ rGA (jnot_of rfl), hM2, he5.2 _ _ rSP (jnot_of rfl)⟩ hMw hMo (fun j _ => rfl) (fun q _ => rfl) hfo hj2 hwv2, (hp.own he (jnot_of rfl) (jnot_of rfl) (jnot_of rfl)).own he5 (jnot_of rfl) (jnot_of rfl) (jnot_of rfl), (hff.mono he.1).mono he5.1⟩
  refine J_pop dL_law_229 rfl ?_
  refine J_goto (tgt := 908) dL_law_230 (by decide) ?_
  exact J.less (kc' := 5 * N + 8 * G2) (ks' := 491 * N + 20013 * G2) (by omega) (by omega) (kk _ G2 hW hx hm hg hr hc hG2)
set_option maxRecDepth 100000 in
set_option maxHeartbeats 4000000 in
theorem lawc_3 {tS : jTS} {b L : Nat} {xs : Nat → Int32} (hs9 : tS.2 = some (b, L, xs)) (V : jH) (ax am : Nat) (i : Int32) (G N : Nat) {Q : Option Value → jH → Prop} (hW : WT V) (hx : jis V (.inr 4) ax) (hm : jis V (.inr 5) am) (hg : jphi V ax G) (hr : jRL V ax am) (hc : jTX V ax am) (hin1 : vp_in (i + 1) L) (hin2 : vp_in (i + 2) L) (hin3 : vp_in (i + 3) L) (kk : ∀ (V2 : jH) (G2 : Nat), WT V2 → jis V2 (.inr 4) ax → jis V2 (.inr 5) am → jphi V2 ax G2 → jRL V2 ax am → jTX V2 ax am → G2 ≤ G → J tS mL_law 1000 908 [some (.ref b), some (.ref ax), some (.ref am), some (.int i)] [] V2 (5 * N + 8 * G2) (491 * N + 20013 * G2) Q) : J tS mL_law 1000 233 [some (.ref b), some (.ref ax), some (.ref am), some (.int i)] [] V (5 * (N + 1) + 8 * G) (491 * (N + 1) + 20013 * G) Q := by
  refine J_aload_n dL_law_233 rfl ?_
  refine J_aload_n dL_law_234 rfl ?_
  refine J_iload_n dL_law_235 rfl ?_
  refine J_iconst (v := 1) dL_law_236 (by decide) ?_
  refine J_iadd dL_law_237 ?_
  refine J_sld hs9 dL_law_238 hin1 ?_
  refine J_aload_n dL_law_239 rfl ?_
  refine J_iload_n dL_law_240 rfl ?_
  refine J_iconst (v := 2) dL_law_241 (by decide) ?_
  refine J_iadd dL_law_242 ?_
  refine J_sld hs9 dL_law_243 hin2 ?_
  refine J_aload_n dL_law_244 rfl ?_
  refine J_iload_n dL_law_245 rfl ?_
  refine J_iconst (v := 3) dL_law_246 (by decide) ?_
  refine J_iadd dL_law_247 ?_
  refine J_sld hs9 dL_law_248 hin3 ?_
  obtain ⟨hs, hp, hff⟩ := id hr
  obtain ⟨k, md, gr, mn, sp, f, GA, MN, SP, A, T, hc1, hr1, ht1, hk, hrows, hsp⟩ := id hs
  obtain ⟨ck, cmd, cA, ctr⟩ := id hc1
  obtain ⟨rk, rgr, rmn, rsp, rGA, rMN, rSP⟩ := id hr1
  obtain ⟨rw, px, py, pz, RW, PX, PY, PZ, q4, q6, q7, q8, b4, b6, b7, b8⟩ := WT_ref hW hm
  by_cases cW : 0 ≤ (xs (i + 1).toNatClampNeg).toInt ∧ (xs (i + 1).toNatClampNeg).toInt < k.toInt
  rotate_left
  · skip
    refine Jw_callV3 (q9 := (RX6, TX6, 7)) moX6_pivot jw_ml_L_27 jw_im_X6_pivot jw_se_X6_pivot hx rfl rfl dL_law_249 (w_X6_pivot_out 999 _ ax (xs (i + 1).toNatClampNeg) (xs (i + 2).toNatClampNeg) (xs (i + 3).toNatClampNeg) k md (by decide) hW hx ck cmd cW) (by decide) (Nat.zero_le _) (Nat.zero_le _) (Nat.le_of_ble_eq_true rfl) (fun r V4 h => ?_)
    obtain ⟨⟨y1, rfl, -, -, hy1⟩, hE⟩ := h
    have hE := hE.symm
    subst hE
    refine J.less (kc' := 5 * N + 8 * G) (ks' := 491 * N + 20013 * G) (by omega) (by omega) ?_
    obtain ⟨G2, hGe⟩ : ∃ G2 : Nat, G2 = G := ⟨_, rfl⟩
    have hG2 : G2 ≤ G := Nat.le_of_eq hGe
    rw [← hGe] at hg ⊢
    refine J_pop dL_law_252 rfl ?_
    refine J_aload_n dL_law_253 rfl ?_
    refine J_aload_n dL_law_254 rfl ?_
    refine J_iload_n dL_law_255 rfl ?_
    refine J_iconst (v := 1) dL_law_256 (by decide) ?_
    refine J_iadd dL_law_257 ?_
    refine J_sld hs9 dL_law_258 hin1 ?_
    refine J_aload_n dL_law_259 rfl ?_
    refine J_iload_n dL_law_260 rfl ?_
    refine J_iconst (v := 2) dL_law_261 (by decide) ?_
    refine J_iadd dL_law_262 ?_
    refine J_sld hs9 dL_law_263 hin2 ?_
    refine J_aload_n dL_law_264 rfl ?_
    refine J_iload_n dL_law_265 rfl ?_
    refine J_iconst (v := 3) dL_law_266 (by decide) ?_
    refine J_iadd dL_law_267 ?_
    refine J_sld hs9 dL_law_268 hin3 ?_
    refine Jw_callV3 (q9 := (RX7, TX7, 34)) moX7_pivot jw_ml_L_31 jw_im_X7_pivot jw_se_X7_pivot hm rfl rfl dL_law_269 (w_X7_pivot_bad 999 _ am (xs (i + 1).toNatClampNeg) (xs (i + 2).toNatClampNeg) (xs (i + 3).toNatClampNeg) k gr mn sp rw px py pz GA MN SP RW PX PY PZ (by decide) hW hm rk rgr rmn rsp q4 q6 q7 q8 rGA rMN rSP b4 b6 b7 b8 (fun q => cW ⟨q.1, q.2.1⟩)) (by decide) (Nat.zero_le _) (Nat.zero_le _) (Nat.le_of_ble_eq_true rfl) (fun r V3 h => ?_)
    obtain ⟨⟨y2, rfl, -, -, hy2⟩, hE⟩ := h
    have hE := hE.symm
    subst hE
    refine J_pop dL_law_272 rfl ?_
    refine J_goto (tgt := 908) dL_law_273 (by decide) ?_
    exact J.less (kc' := 5 * N + 8 * G2) (ks' := 491 * N + 20013 * G2) (by omega) (by omega) (kk _ G2 hW hx hm hg hr hc hG2)
  have hw9 : (((xs (i + 1).toNatClampNeg).toInt.toNat : Nat) : Int) < k.toInt := by omega
  obtain ⟨S, X, Y, Z, hfo, hrow, hwv⟩ := hrows (xs (i + 1).toNatClampNeg).toInt.toNat hw9
  obtain ⟨⟨M, mM, eM⟩, ⟨g, mg, eg⟩, ⟨n, nn, en⟩, s1, s2, s3, s4, a1, a2, a3, a4⟩ := id hrow
  obtain rfl := jI_inj.mp eg
  obtain rfl := jI_inj.mp en
  obtain ⟨hg9, hn9, hst, hjv, hav⟩ := id hwv
  have hTS : ∀ q : Nat, q < (MN (xs (i + 1).toNatClampNeg).toInt.toNat).toInt.toNat → (S q).toInt = (SP (60 * (xs (i + 1).toNatClampNeg).toInt.toNat + q)).toInt := fun q hq => (hst q (by omega)).1
  have hSr : ∀ j : Nat, (j : Int) < (MN (xs (i + 1).toNatClampNeg).toInt.toNat).toInt → 0 ≤ (S j).toInt ∧ (S j).toInt < jdir (GA (xs (i + 1).toNatClampNeg).toInt.toNat).toInt := fun j hj => by rw [(hst j hj).1]; exact (hst j hj).2
  have hPr : ∀ j : Nat, (j : Int) < (MN (xs (i + 1).toNatClampNeg).toInt.toNat).toInt → 0 ≤ (SP (60 * (xs (i + 1).toNatClampNeg).toInt.toNat + j)).toInt ∧ (SP (60 * (xs (i + 1).toNatClampNeg).toInt.toNat + j)).toInt < jdir (GA (xs (i + 1).toNatClampNeg).toInt.toNat).toInt := fun j hj => (hst j hj).2
  have hjvS := hjv.congr (U := fun q => (S q).toInt) (fun q hq => (hTS q hq).symm)
  have havS := hav.congr (U := fun q => (S q).toInt) (fun q hq => (hTS q hq).symm)
  by_cases cD : 0 ≤ (xs (i + 2).toNatClampNeg).toInt ∧ (xs (i + 2).toNatClampNeg).toInt ≤ (MN ((xs (i + 1).toNatClampNeg).toInt.toNat)).toInt ∧ 0 ≤ (xs (i + 3).toNatClampNeg).toInt ∧ (xs (i + 3).toNatClampNeg).toInt < jtur (GA ((xs (i + 1).toNatClampNeg).toInt.toNat)).toInt
  rotate_left
  · skip
    refine Jw_callV3 (q9 := (RX6, TX6, 7)) moX6_pivot jw_ml_L_27 jw_im_X6_pivot jw_se_X6_pivot hx rfl rfl dL_law_249 (w_X6_pivot_bad 999 _ ax (xs (i + 1).toNatClampNeg) (xs (i + 2).toNatClampNeg) (xs (i + 3).toNatClampNeg) k md f (A ((xs (i + 1).toNatClampNeg).toInt.toNat)).1 M (GA ((xs (i + 1).toNatClampNeg).toInt.toNat)) (MN ((xs (i + 1).toNatClampNeg).toInt.toNat)) (A ((xs (i + 1).toNatClampNeg).toInt.toNat)).2.1 (A ((xs (i + 1).toNatClampNeg).toInt.toNat)).2.2.1 (A ((xs (i + 1).toNatClampNeg).toInt.toNat)).2.2.2.1 (A ((xs (i + 1).toNatClampNeg).toInt.toNat)).2.2.2.2 S X Y Z (by decide) hW hx ck cmd cA mM mg nn s1 s2 s3 s4 a1 a2 a3 a4 eM hn9.2 hfo cW.1 cW.2 hg9.1 hg9.2 cD) (by decide) (Nat.zero_le _) (Nat.zero_le _) (Nat.le_of_ble_eq_true rfl) (fun r V4 h => ?_)
    obtain ⟨⟨y1, rfl, -, -, hy1⟩, hE⟩ := h
    have hE := hE.symm
    subst hE
    refine J.less (kc' := 5 * N + 8 * G) (ks' := 491 * N + 20013 * G) (by omega) (by omega) ?_
    obtain ⟨G2, hGe⟩ : ∃ G2 : Nat, G2 = G := ⟨_, rfl⟩
    have hG2 : G2 ≤ G := Nat.le_of_eq hGe
    rw [← hGe] at hg ⊢
    refine J_pop dL_law_252 rfl ?_
    refine J_aload_n dL_law_253 rfl ?_
    refine J_aload_n dL_law_254 rfl ?_
    refine J_iload_n dL_law_255 rfl ?_
    refine J_iconst (v := 1) dL_law_256 (by decide) ?_
    refine J_iadd dL_law_257 ?_
    refine J_sld hs9 dL_law_258 hin1 ?_
    refine J_aload_n dL_law_259 rfl ?_
    refine J_iload_n dL_law_260 rfl ?_
    refine J_iconst (v := 2) dL_law_261 (by decide) ?_
    refine J_iadd dL_law_262 ?_
    refine J_sld hs9 dL_law_263 hin2 ?_
    refine J_aload_n dL_law_264 rfl ?_
    refine J_iload_n dL_law_265 rfl ?_
    refine J_iconst (v := 3) dL_law_266 (by decide) ?_
    refine J_iadd dL_law_267 ?_
    refine J_sld hs9 dL_law_268 hin3 ?_
    refine Jw_callV3 (q9 := (RX7, TX7, 34)) moX7_pivot jw_ml_L_31 jw_im_X7_pivot jw_se_X7_pivot hm rfl rfl dL_law_269 (w_X7_pivot_bad 999 _ am (xs (i + 1).toNatClampNeg) (xs (i + 2).toNatClampNeg) (xs (i + 3).toNatClampNeg) k gr mn sp rw px py pz GA MN SP RW PX PY PZ (by decide) hW hm rk rgr rmn rsp q4 q6 q7 q8 rGA rMN rSP b4 b6 b7 b8 (fun q => cD q.2.2)) (by decide) (Nat.zero_le _) (Nat.zero_le _) (Nat.le_of_ble_eq_true rfl) (fun r V3 h => ?_)
    obtain ⟨⟨y2, rfl, -, -, hy2⟩, hE⟩ := h
    have hE := hE.symm
    subst hE
    refine J_pop dL_law_272 rfl ?_
    refine J_goto (tgt := 908) dL_law_273 (by decide) ?_
    exact J.less (kc' := 5 * N + 8 * G2) (ks' := 491 * N + 20013 * G2) (by omega) (by omega) (kk _ G2 hW hx hm hg hr hc hG2)
  obtain ⟨gT9, nT9, ST, XT, YT, ZT, htr, z1, z2, z3⟩ := id ht1
  obtain ⟨⟨MT, tM, tE⟩, ⟨gT, tg, tge⟩, ⟨nT, tn, tne⟩, t1, t2, t3, t4, u1, u2, u3, u4⟩ := id htr
  have hnT : 0 ≤ nT.toInt ∧ nT.toInt ≤ 120 := by obtain ⟨fsT, hOT, hFT⟩ := id tn; exact jok_rngI (hW _ _ id hOT) rfl hFT
  have hAB := jdisj hrow htr (hsp.2 _ hw9)
  have hBA := jdisj htr hrow (hsp.2 _ hw9).symm
  have hcg : ∀ q : Nat, q < (MN ((xs (i + 1).toNatClampNeg).toInt.toNat)).toInt.toNat → (jTp (GA ((xs (i + 1).toNatClampNeg).toInt.toNat)).toInt (xs (i + 3).toNatClampNeg).toInt (xs (i + 2).toNatClampNeg).toInt (fun q => (S q).toInt)) q = jTp (GA ((xs (i + 1).toNatClampNeg).toInt.toNat)).toInt (xs (i + 3).toNatClampNeg).toInt (xs (i + 2).toNatClampNeg).toInt (fun q => (SP (60 * ((xs (i + 1).toNatClampNeg).toInt.toNat) + q)).toInt) q := jTp_congr hTS
  by_cases cJ : jav (GA ((xs (i + 1).toNatClampNeg).toInt.toNat)).toInt (jTp (GA ((xs (i + 1).toNatClampNeg).toInt.toNat)).toInt (xs (i + 3).toNatClampNeg).toInt (xs (i + 2).toNatClampNeg).toInt (fun q => (S q).toInt)) (MN ((xs (i + 1).toNatClampNeg).toInt.toNat)).toInt.toNat
  rotate_left
  · skip
    refine Jw_callV3 (q9 := (RX6, TX6, 7)) moX6_pivot jw_ml_L_27 jw_im_X6_pivot jw_se_X6_pivot hx rfl rfl dL_law_249 (w_X6_pivot_no 999 _ ax (xs (i + 1).toNatClampNeg) (xs (i + 2).toNatClampNeg) (xs (i + 3).toNatClampNeg) k md T.1 f (A ((xs (i + 1).toNatClampNeg).toInt.toNat)).1 M (GA ((xs (i + 1).toNatClampNeg).toInt.toNat)) (MN ((xs (i + 1).toNatClampNeg).toInt.toNat)) (A ((xs (i + 1).toNatClampNeg).toInt.toNat)).2.1 (A ((xs (i + 1).toNatClampNeg).toInt.toNat)).2.2.1 (A ((xs (i + 1).toNatClampNeg).toInt.toNat)).2.2.2.1 (A ((xs (i + 1).toNatClampNeg).toInt.toNat)).2.2.2.2 S X Y Z MT gT nT T.2.1 T.2.2.1 T.2.2.2.1 T.2.2.2.2 ST XT YT ZT (by decide) hW hx ck cmd ctr cA mM mg nn s1 s2 s3 s4 a1 a2 a3 a4 eM hn9.2 hfo tM tg tn t1 t2 t3 t4 u1 u2 u3 u4 tE hnT.2 hAB hBA cW.1 cW.2 hg9.1 hg9.2 cD.1 cD.2.1 cD.2.2.1 cD.2.2.2 hSr z1 z2 z3 cJ) (by decide) (Nat.zero_le _) (Nat.zero_le _) (Nat.le_of_ble_eq_true rfl) (fun r V4 h => ?_)
    obtain ⟨⟨hW, he, y1, rfl, -, -, hy1⟩, ht4, hfp⟩ := h
    have hx := hx.mono he.1
    have hm := hm.mono he.1
    have hg := hg.keep he (jnot_of rfl) (jnot_of rfl)
    have hc := hc.keep he (jdis_of rfl)
    have rk := rk.keep he (jnot_of rfl)
    have rgr := rgr.mono he.1
    have rmn := rmn.mono he.1
    have rsp := rsp.mono he.1
    have q4 := q4.mono he.1
    have q6 := q6.mono he.1
    have q7 := q7.mono he.1
    have q8 := q8.mono he.1
    have rGA := he.2 _ _ rGA (jnot_of rfl)
    have rMN := he.2 _ _ rMN (jnot_of rfl)
    have rSP := he.2 _ _ rSP (jnot_of rfl)
    have b4 := he.2 _ _ b4 (jnot_of rfl)
    have b6 := he.2 _ _ b6 (jnot_of rfl)
    have b7 := he.2 _ _ b7 (jnot_of rfl)
    have b8 := he.2 _ _ b8 (jnot_of rfl)
    have hr : jRL V4 ax am := ⟨jrs.tri2 hc1 hr1 ht1 hk hrows hsp he (jdis_of rfl) hfp ht4, hp.own he (jnot_of rfl) (jnot_of rfl) (jnot_of rfl), hff.mono he.1⟩
    refine J.less (kc' := 5 * N + 8 * G) (ks' := 491 * N + 20013 * G) (by omega) (by omega) ?_
    obtain ⟨G2, hGe⟩ : ∃ G2 : Nat, G2 = G := ⟨_, rfl⟩
    have hG2 : G2 ≤ G := Nat.le_of_eq hGe
    rw [← hGe] at hg ⊢
    refine J_pop dL_law_252 rfl ?_
    refine J_aload_n dL_law_253 rfl ?_
    refine J_aload_n dL_law_254 rfl ?_
    refine J_iload_n dL_law_255 rfl ?_
    refine J_iconst (v := 1) dL_law_256 (by decide) ?_
    refine J_iadd dL_law_257 ?_
    refine J_sld hs9 dL_law_258 hin1 ?_
    refine J_aload_n dL_law_259 rfl ?_
    refine J_iload_n dL_law_260 rfl ?_
    refine J_iconst (v := 2) dL_law_261 (by decide) ?_
    refine J_iadd dL_law_262 ?_
    refine J_sld hs9 dL_law_263 hin2 ?_
    refine J_aload_n dL_law_264 rfl ?_
    refine J_iload_n dL_law_265 rfl ?_
    refine J_iconst (v := 3) dL_law_266 (by decide) ?_
    refine J_iadd dL_law_267 ?_
    refine J_sld hs9 dL_law_268 hin3 ?_
    refine Jw_callV3 (q9 := (RX7, TX7, 34)) moX7_pivot jw_ml_L_31 jw_im_X7_pivot jw_se_X7_pivot hm rfl rfl dL_law_269 (w_X7_pivot_no 999 _ am (xs (i + 1).toNatClampNeg) (xs (i + 2).toNatClampNeg) (xs (i + 3).toNatClampNeg) k gr mn sp rw px py pz GA MN SP RW PX PY PZ (by decide) hW hm rk rgr rmn rsp q4 q6 q7 q8 rGA rMN rSP b4 b6 b7 b8 cW.1 cW.2 cD.1 cD.2.1 cD.2.2.1 cD.2.2.2 hPr (fun h => cJ (h.congr (fun q hq => (hcg q hq).symm)))) (by decide) (Nat.zero_le _) (Nat.zero_le _) (Nat.le_of_ble_eq_true rfl) (fun r V3 h => ?_)
    obtain ⟨⟨hW, he5, y2, rfl, -, -, hy2⟩, hkp⟩ := h
    have hx := hx.mono he5.1
    have hm := hm.mono he5.1
    have hg := hg.keep he5 (jnot_of rfl) (jnot_of rfl)
    have hc := hc.keep he5 (jdis_of rfl)
    have hr := hr.ref he5 hkp (by decide) (jdis_of rfl)
    refine J_pop dL_law_272 rfl ?_
    refine J_goto (tgt := 908) dL_law_273 (by decide) ?_
    exact J.less (kc' := 5 * N + 8 * G2) (ks' := 491 * N + 20013 * G2) (by omega) (by omega) (kk _ G2 hW hx hm hg hr hc hG2)
  refine Jw_callV3 (q9 := (RX6, TX6, 7)) moX6_pivot jw_ml_L_27 jw_im_X6_pivot jw_se_X6_pivot hx rfl rfl dL_law_249 (w_X6_pivot_ok 999 _ ax (xs (i + 1).toNatClampNeg) (xs (i + 2).toNatClampNeg) (xs (i + 3).toNatClampNeg) k md T.1 f (A ((xs (i + 1).toNatClampNeg).toInt.toNat)).1 M (GA ((xs (i + 1).toNatClampNeg).toInt.toNat)) (MN ((xs (i + 1).toNatClampNeg).toInt.toNat)) (A ((xs (i + 1).toNatClampNeg).toInt.toNat)).2.1 (A ((xs (i + 1).toNatClampNeg).toInt.toNat)).2.2.1 (A ((xs (i + 1).toNatClampNeg).toInt.toNat)).2.2.2.1 (A ((xs (i + 1).toNatClampNeg).toInt.toNat)).2.2.2.2 S X Y Z MT gT nT T.2.1 T.2.2.1 T.2.2.2.1 T.2.2.2.2 ST XT YT ZT (by decide) hW hx ck cmd ctr cA mM mg nn s1 s2 s3 s4 a1 a2 a3 a4 eM hn9.2 hfo tM tg tn t1 t2 t3 t4 u1 u2 u3 u4 tE hnT.2 hAB hBA cW.1 cW.2 hg9.1 hg9.2 cD.1 cD.2.1 cD.2.2.1 cD.2.2.2 hSr z1 z2 z3 cJ) (by decide) (Nat.zero_le _) (Nat.zero_le _) (Nat.le_of_ble_eq_true rfl) (fun r V4 h => ?_)
  obtain ⟨⟨hW, he, y1, rfl, -, -, hy1⟩, ⟨S2, X2, Y2, Z2, hj2, hS2, hv2⟩, ht4, hfp⟩ := h
  have hx := hx.mono he.1
  have hm := hm.mono he.1
  have hg := hg.keep he (jnot_of rfl) (jnot_of rfl)
  have hc := hc.keep he (jdis_of rfl)
  have rk := rk.keep he (jnot_of rfl)
  have rgr := rgr.mono he.1
  have rmn := rmn.mono he.1
  have rsp := rsp.mono he.1
  have q4 := q4.mono he.1
  have q6 := q6.mono he.1
  have q7 := q7.mono he.1
  have q8 := q8.mono he.1
  have rGA := he.2 _ _ rGA (jnot_of rfl)
  have rMN := he.2 _ _ rMN (jnot_of rfl)
  have rSP := he.2 _ _ rSP (jnot_of rfl)
  have b4 := he.2 _ _ b4 (jnot_of rfl)
  have b6 := he.2 _ _ b6 (jnot_of rfl)
  have b7 := he.2 _ _ b7 (jnot_of rfl)
  have b8 := he.2 _ _ b8 (jnot_of rfl)
  have hwv2 : jwv (GA ((xs (i + 1).toNatClampNeg).toInt.toNat)).toInt (MN ((xs (i + 1).toNatClampNeg).toInt.toNat)).toInt (jTp (GA ((xs (i + 1).toNatClampNeg).toInt.toNat)).toInt (xs (i + 3).toNatClampNeg).toInt (xs (i + 2).toNatClampNeg).toInt (fun q => (S q).toInt)) S2 X2 Y2 Z2 := jwv.mk hg9 hn9.1 hn9.2 hS2 (jTp_rng hg9 cD.2.2 hSr) hv2 cJ
  have hL : ∀ b : Nat, b ∉ jadl (A ((xs (i + 1).toNatClampNeg).toInt.toNat)) → b ∉ jadl T → V4 b = V b := fun b q1 q2 => hfp b (fun z => (List.mem_append.mp (show b ∈ jadl (A ((xs (i + 1).toNatClampNeg).toInt.toNat)) ++ jadl T from z)).elim q1 q2)
  refine J.less (kc' := 5 * N + 8 * G) (ks' := 491 * N + 20013 * G) (by omega) (by omega) ?_
  obtain ⟨G2, hGe⟩ : ∃ G2 : Nat, G2 = G := ⟨_, rfl⟩
  have hG2 : G2 ≤ G := Nat.le_of_eq hGe
  rw [← hGe] at hg ⊢
  refine J_pop dL_law_252 rfl ?_
  refine J_aload_n dL_law_253 rfl ?_
  refine J_aload_n dL_law_254 rfl ?_
  refine J_iload_n dL_law_255 rfl ?_
  refine J_iconst (v := 1) dL_law_256 (by decide) ?_
  refine J_iadd dL_law_257 ?_
  refine J_sld hs9 dL_law_258 hin1 ?_
  refine J_aload_n dL_law_259 rfl ?_
  refine J_iload_n dL_law_260 rfl ?_
  refine J_iconst (v := 2) dL_law_261 (by decide) ?_
  refine J_iadd dL_law_262 ?_
  refine J_sld hs9 dL_law_263 hin2 ?_
  refine J_aload_n dL_law_264 rfl ?_
  refine J_iload_n dL_law_265 rfl ?_
  refine J_iconst (v := 3) dL_law_266 (by decide) ?_
  refine J_iadd dL_law_267 ?_
  refine J_sld hs9 dL_law_268 hin3 ?_
  refine Jw_callV3 (q9 := (RX7, TX7, 34)) moX7_pivot jw_ml_L_31 jw_im_X7_pivot jw_se_X7_pivot hm rfl rfl dL_law_269 (w_X7_pivot_ok 999 _ am (xs (i + 1).toNatClampNeg) (xs (i + 2).toNatClampNeg) (xs (i + 3).toNatClampNeg) k gr mn sp rw px py pz GA MN SP RW PX PY PZ (by decide) hW hm rk rgr rmn rsp q4 q6 q7 q8 rGA rMN rSP b4 b6 b7 b8 cW.1 cW.2 cD.1 cD.2.1 cD.2.2.1 cD.2.2.2 hPr (cJ.congr (fun q hq => hcg q hq))) (by decide) (Nat.zero_le _) (Nat.zero_le _) (Nat.le_of_ble_eq_true rfl) (fun r V3 h => ?_)
  obtain ⟨⟨hW, he5, y2, rfl, -, -, hy2⟩, ⟨M2, hM2, hMw, hMo⟩, ⟨P2, hP2, hPw, hPo⟩, hkp⟩ := h
  have hx := hx.mono he5.1
  have hm := hm.mono he5.1
  have hg := hg.keep he5 (jnot_of rfl) (jnot_of rfl)
  have hc := hc.keep he5 (jdis_of rfl)
  have hr : jRL _ ax am := ⟨jrs.done hc1 hk hrows hsp ht1 hw9 he (jnot_of rfl) (jnot_of rfl) hL ht4 he5 (jdis_of rfl) (jnot_of rfl) (jnot_of rfl) ⟨rk.kp hkp (by decide), rgr.mono he5.1, rmn.mono he5.1, rsp.mono he5.1, he5.2 _ _ rGA (jnot_of rfl), hM2, hP2⟩ hMw hMo (fun j hj => by rw [hPw j hj]; exact (hcg j (by omega)).symm) hPo hfo hj2 hwv2, (hp.own he (jnot_of rfl) (jnot_of rfl) (jnot_of rfl)).ref he5 (jnot_of rfl) hkp (by decide) (jnot_of rfl), (hff.mono he.1).mono he5.1⟩
  refine J_pop dL_law_272 rfl ?_
  refine J_goto (tgt := 908) dL_law_273 (by decide) ?_
  exact J.less (kc' := 5 * N + 8 * G2) (ks' := 491 * N + 20013 * G2) (by omega) (by omega) (kk _ G2 hW hx hm hg hr hc hG2)
set_option maxRecDepth 100000 in
set_option maxHeartbeats 4000000 in
theorem lawc_4 {tS : jTS} {b L : Nat} {xs : Nat → Int32} (hs9 : tS.2 = some (b, L, xs)) (V : jH) (ax am : Nat) (i : Int32) (G N : Nat) {Q : Option Value → jH → Prop} (hW : WT V) (hx : jis V (.inr 4) ax) (hm : jis V (.inr 5) am) (hg : jphi V ax G) (hr : jRL V ax am) (hc : jTX V ax am) (hin1 : vp_in (i + 1) L) (hin2 : vp_in (i + 2) L) (hin3 : vp_in (i + 3) L) (kk : ∀ (V2 : jH) (G2 : Nat), WT V2 → jis V2 (.inr 4) ax → jis V2 (.inr 5) am → jphi V2 ax G2 → jRL V2 ax am → jTX V2 ax am → G2 ≤ G → J tS mL_law 1000 908 [some (.ref b), some (.ref ax), some (.ref am), some (.int i)] [] V2 (5 * N + 8 * G2) (491 * N + 20013 * G2) Q) : J tS mL_law 1000 276 [some (.ref b), some (.ref ax), some (.ref am), some (.int i)] [] V (5 * (N + 1) + 8 * G) (491 * (N + 1) + 20013 * G) Q := by
  refine J_aload_n dL_law_276 rfl ?_
  refine J_aload_n dL_law_277 rfl ?_
  refine J_iload_n dL_law_278 rfl ?_
  refine J_iconst (v := 1) dL_law_279 (by decide) ?_
  refine J_iadd dL_law_280 ?_
  refine J_sld hs9 dL_law_281 hin1 ?_
  refine J_aload_n dL_law_282 rfl ?_
  refine J_iload_n dL_law_283 rfl ?_
  refine J_iconst (v := 2) dL_law_284 (by decide) ?_
  refine J_iadd dL_law_285 ?_
  refine J_sld hs9 dL_law_286 hin2 ?_
  obtain ⟨hs, hp, hff⟩ := id hr
  obtain ⟨k, md, gr, mn, sp, f, GA, MN, SP, A, T, hc1, hr1, ht1, hk, hrows, hsp⟩ := id hs
  obtain ⟨ck, cmd, cA, ctr⟩ := id hc1
  obtain ⟨rk, rgr, rmn, rsp, rGA, rMN, rSP⟩ := id hr1
  obtain ⟨rw, px, py, pz, RW, PX, PY, PZ, q4, q6, q7, q8, b4, b6, b7, b8⟩ := WT_ref hW hm
  by_cases cW : 0 ≤ (xs (i + 1).toNatClampNeg).toInt ∧ (xs (i + 1).toNatClampNeg).toInt < k.toInt
  rotate_left
  · skip
    by_cases cX : 0 ≤ (xs (i + 2).toNatClampNeg).toInt ∧ (xs (i + 2).toNatClampNeg).toInt < k.toInt
    rotate_left
    · skip
      refine Jw_callV2 (q9 := (RX6, TX6, 7)) moX6_join jw_ml_L_32 jw_im_X6_join jw_se_X6_join hx rfl rfl dL_law_287 (w_X6_join_oo 999 _ ax (xs (i + 1).toNatClampNeg) (xs (i + 2).toNatClampNeg) k md (by decide) hW hx ck cmd cW cX) (by decide) (Nat.zero_le _) (Nat.zero_le _) (Nat.le_of_ble_eq_true rfl) (fun r V4 h => ?_)
      obtain ⟨⟨y1, rfl, -, -, hy1⟩, hE⟩ := h
      have hE := hE.symm
      subst hE
      refine J.less (kc' := 5 * N + 8 * G) (ks' := 491 * N + 20013 * G) (by omega) (by omega) ?_
      obtain ⟨G2, hGe⟩ : ∃ G2 : Nat, G2 = G := ⟨_, rfl⟩
      have hG2 : G2 ≤ G := Nat.le_of_eq hGe
      rw [← hGe] at hg ⊢
      refine J_pop dL_law_290 rfl ?_
      refine J_aload_n dL_law_291 rfl ?_
      refine J_aload_n dL_law_292 rfl ?_
      refine J_iload_n dL_law_293 rfl ?_
      refine J_iconst (v := 1) dL_law_294 (by decide) ?_
      refine J_iadd dL_law_295 ?_
      refine J_sld hs9 dL_law_296 hin1 ?_
      refine J_aload_n dL_law_297 rfl ?_
      refine J_iload_n dL_law_298 rfl ?_
      refine J_iconst (v := 2) dL_law_299 (by decide) ?_
      refine J_iadd dL_law_300 ?_
      refine J_sld hs9 dL_law_301 hin2 ?_
      refine Jw_callV2 (q9 := (RX7, TX7, 34)) moX7_join jw_ml_L_35 jw_im_X7_join jw_se_X7_join hm rfl rfl dL_law_302 (w_X7_join_bad 999 _ am (xs (i + 1).toNatClampNeg) (xs (i + 2).toNatClampNeg) k gr mn sp rw px py pz GA MN SP RW PX PY PZ (by decide) hW hm rk rgr rmn rsp q4 q6 q7 q8 rGA rMN rSP b4 b6 b7 b8 (fun q => cW ⟨q.1, q.2.1⟩)) (by decide) (Nat.zero_le _) (Nat.zero_le _) (Nat.le_of_ble_eq_true rfl) (fun r V3 h => ?_)
      obtain ⟨⟨y2, rfl, -, -, hy2⟩, hE⟩ := h
      have hE := hE.symm
      subst hE
      refine J_pop dL_law_305 rfl ?_
      refine J_goto (tgt := 908) dL_law_306 (by decide) ?_
      exact J.less (kc' := 5 * N + 8 * G2) (ks' := 491 * N + 20013 * G2) (by omega) (by omega) (kk _ G2 hW hx hm hg hr hc hG2)
    have hw9B : (((xs (i + 2).toNatClampNeg).toInt.toNat : Nat) : Int) < k.toInt := by omega
    obtain ⟨SB, XB, YB, ZB, hfoB, hrowB, hwvB⟩ := hrows (xs (i + 2).toNatClampNeg).toInt.toNat hw9B
    obtain ⟨⟨MB, mMB, eMB⟩, ⟨gB, mgB, egB⟩, ⟨nB, nnB, enB⟩, s1B, s2B, s3B, s4B, a1B, a2B, a3B, a4B⟩ := id hrowB
    obtain rfl := jI_inj.mp egB
    obtain rfl := jI_inj.mp enB
    obtain ⟨hg9B, hn9B, hstB, hjvB, havB⟩ := id hwvB
    have hTSB : ∀ q : Nat, q < (MN (xs (i + 2).toNatClampNeg).toInt.toNat).toInt.toNat → (SB q).toInt = (SP (60 * (xs (i + 2).toNatClampNeg).toInt.toNat + q)).toInt := fun q hq => (hstB q (by omega)).1
    have hSrB : ∀ j : Nat, (j : Int) < (MN (xs (i + 2).toNatClampNeg).toInt.toNat).toInt → 0 ≤ (SB j).toInt ∧ (SB j).toInt < jdir (GA (xs (i + 2).toNatClampNeg).toInt.toNat).toInt := fun j hj => by rw [(hstB j hj).1]; exact (hstB j hj).2
    have hPrB : ∀ j : Nat, (j : Int) < (MN (xs (i + 2).toNatClampNeg).toInt.toNat).toInt → 0 ≤ (SP (60 * (xs (i + 2).toNatClampNeg).toInt.toNat + j)).toInt ∧ (SP (60 * (xs (i + 2).toNatClampNeg).toInt.toNat + j)).toInt < jdir (GA (xs (i + 2).toNatClampNeg).toInt.toNat).toInt := fun j hj => (hstB j hj).2
    have hjvSB := hjvB.congr (U := fun q => (SB q).toInt) (fun q hq => (hTSB q hq).symm)
    have havSB := havB.congr (U := fun q => (SB q).toInt) (fun q hq => (hTSB q hq).symm)
    refine Jw_callV2 (q9 := (RX6, TX6, 7)) moX6_join jw_ml_L_32 jw_im_X6_join jw_se_X6_join hx rfl rfl dL_law_287 (w_X6_join_oi 999 _ ax (xs (i + 1).toNatClampNeg) (xs (i + 2).toNatClampNeg) k md f (A ((xs (i + 2).toNatClampNeg).toInt.toNat)).1 MB (GA ((xs (i + 2).toNatClampNeg).toInt.toNat)) (MN ((xs (i + 2).toNatClampNeg).toInt.toNat)) (A ((xs (i + 2).toNatClampNeg).toInt.toNat)).2.1 (A ((xs (i + 2).toNatClampNeg).toInt.toNat)).2.2.1 (A ((xs (i + 2).toNatClampNeg).toInt.toNat)).2.2.2.1 (A ((xs (i + 2).toNatClampNeg).toInt.toNat)).2.2.2.2 SB XB YB ZB (by decide) hW hx ck cmd cA mMB mgB nnB s1B s2B s3B s4B a1B a2B a3B a4B eMB hn9B.2 hfoB cW cX.1 cX.2) (by decide) (Nat.zero_le _) (Nat.zero_le _) (Nat.le_of_ble_eq_true rfl) (fun r V4 h => ?_)
    obtain ⟨⟨y1, rfl, -, -, hy1⟩, hE⟩ := h
    have hE := hE.symm
    subst hE
    refine J.less (kc' := 5 * N + 8 * G) (ks' := 491 * N + 20013 * G) (by omega) (by omega) ?_
    obtain ⟨G2, hGe⟩ : ∃ G2 : Nat, G2 = G := ⟨_, rfl⟩
    have hG2 : G2 ≤ G := Nat.le_of_eq hGe
    rw [← hGe] at hg ⊢
    refine J_pop dL_law_290 rfl ?_
    refine J_aload_n dL_law_291 rfl ?_
    refine J_aload_n dL_law_292 rfl ?_
    refine J_iload_n dL_law_293 rfl ?_
    refine J_iconst (v := 1) dL_law_294 (by decide) ?_
    refine J_iadd dL_law_295 ?_
    refine J_sld hs9 dL_law_296 hin1 ?_
    refine J_aload_n dL_law_297 rfl ?_
    refine J_iload_n dL_law_298 rfl ?_
    refine J_iconst (v := 2) dL_law_299 (by decide) ?_
    refine J_iadd dL_law_300 ?_
    refine J_sld hs9 dL_law_301 hin2 ?_
    refine Jw_callV2 (q9 := (RX7, TX7, 34)) moX7_join jw_ml_L_35 jw_im_X7_join jw_se_X7_join hm rfl rfl dL_law_302 (w_X7_join_bad 999 _ am (xs (i + 1).toNatClampNeg) (xs (i + 2).toNatClampNeg) k gr mn sp rw px py pz GA MN SP RW PX PY PZ (by decide) hW hm rk rgr rmn rsp q4 q6 q7 q8 rGA rMN rSP b4 b6 b7 b8 (fun q => cW ⟨q.1, q.2.1⟩)) (by decide) (Nat.zero_le _) (Nat.zero_le _) (Nat.le_of_ble_eq_true rfl) (fun r V3 h => ?_)
    obtain ⟨⟨y2, rfl, -, -, hy2⟩, hE⟩ := h
    have hE := hE.symm
    subst hE
    refine J_pop dL_law_305 rfl ?_
    refine J_goto (tgt := 908) dL_law_306 (by decide) ?_
    exact J.less (kc' := 5 * N + 8 * G2) (ks' := 491 * N + 20013 * G2) (by omega) (by omega) (kk _ G2 hW hx hm hg hr hc hG2)
  have hw9 : (((xs (i + 1).toNatClampNeg).toInt.toNat : Nat) : Int) < k.toInt := by omega
  obtain ⟨S, X, Y, Z, hfo, hrow, hwv⟩ := hrows (xs (i + 1).toNatClampNeg).toInt.toNat hw9
  obtain ⟨⟨M, mM, eM⟩, ⟨g, mg, eg⟩, ⟨n, nn, en⟩, s1, s2, s3, s4, a1, a2, a3, a4⟩ := id hrow
  obtain rfl := jI_inj.mp eg
  obtain rfl := jI_inj.mp en
  obtain ⟨hg9, hn9, hst, hjv, hav⟩ := id hwv
  have hTS : ∀ q : Nat, q < (MN (xs (i + 1).toNatClampNeg).toInt.toNat).toInt.toNat → (S q).toInt = (SP (60 * (xs (i + 1).toNatClampNeg).toInt.toNat + q)).toInt := fun q hq => (hst q (by omega)).1
  have hSr : ∀ j : Nat, (j : Int) < (MN (xs (i + 1).toNatClampNeg).toInt.toNat).toInt → 0 ≤ (S j).toInt ∧ (S j).toInt < jdir (GA (xs (i + 1).toNatClampNeg).toInt.toNat).toInt := fun j hj => by rw [(hst j hj).1]; exact (hst j hj).2
  have hPr : ∀ j : Nat, (j : Int) < (MN (xs (i + 1).toNatClampNeg).toInt.toNat).toInt → 0 ≤ (SP (60 * (xs (i + 1).toNatClampNeg).toInt.toNat + j)).toInt ∧ (SP (60 * (xs (i + 1).toNatClampNeg).toInt.toNat + j)).toInt < jdir (GA (xs (i + 1).toNatClampNeg).toInt.toNat).toInt := fun j hj => (hst j hj).2
  have hjvS := hjv.congr (U := fun q => (S q).toInt) (fun q hq => (hTS q hq).symm)
  have havS := hav.congr (U := fun q => (S q).toInt) (fun q hq => (hTS q hq).symm)
  by_cases cX : 0 ≤ (xs (i + 2).toNatClampNeg).toInt ∧ (xs (i + 2).toNatClampNeg).toInt < k.toInt
  rotate_left
  · skip
    refine Jw_callV2 (q9 := (RX6, TX6, 7)) moX6_join jw_ml_L_32 jw_im_X6_join jw_se_X6_join hx rfl rfl dL_law_287 (w_X6_join_out2 999 _ ax (xs (i + 1).toNatClampNeg) (xs (i + 2).toNatClampNeg) k md f (A ((xs (i + 1).toNatClampNeg).toInt.toNat)).1 M (GA ((xs (i + 1).toNatClampNeg).toInt.toNat)) (MN ((xs (i + 1).toNatClampNeg).toInt.toNat)) (A ((xs (i + 1).toNatClampNeg).toInt.toNat)).2.1 (A ((xs (i + 1).toNatClampNeg).toInt.toNat)).2.2.1 (A ((xs (i + 1).toNatClampNeg).toInt.toNat)).2.2.2.1 (A ((xs (i + 1).toNatClampNeg).toInt.toNat)).2.2.2.2 S X Y Z (by decide) hW hx ck cmd cA mM mg nn s1 s2 s3 s4 a1 a2 a3 a4 eM hn9.2 hfo cW.1 cW.2 cX) (by decide) (Nat.zero_le _) (Nat.zero_le _) (Nat.le_of_ble_eq_true rfl) (fun r V4 h => ?_)
    obtain ⟨⟨y1, rfl, -, -, hy1⟩, hE⟩ := h
    have hE := hE.symm
    subst hE
    refine J.less (kc' := 5 * N + 8 * G) (ks' := 491 * N + 20013 * G) (by omega) (by omega) ?_
    obtain ⟨G2, hGe⟩ : ∃ G2 : Nat, G2 = G := ⟨_, rfl⟩
    have hG2 : G2 ≤ G := Nat.le_of_eq hGe
    rw [← hGe] at hg ⊢
    refine J_pop dL_law_290 rfl ?_
    refine J_aload_n dL_law_291 rfl ?_
    refine J_aload_n dL_law_292 rfl ?_
    refine J_iload_n dL_law_293 rfl ?_
    refine J_iconst (v := 1) dL_law_294 (by decide) ?_
    refine J_iadd dL_law_295 ?_
    refine J_sld hs9 dL_law_296 hin1 ?_
    refine J_aload_n dL_law_297 rfl ?_
    refine J_iload_n dL_law_298 rfl ?_
    refine J_iconst (v := 2) dL_law_299 (by decide) ?_
    refine J_iadd dL_law_300 ?_
    refine J_sld hs9 dL_law_301 hin2 ?_
    refine Jw_callV2 (q9 := (RX7, TX7, 34)) moX7_join jw_ml_L_35 jw_im_X7_join jw_se_X7_join hm rfl rfl dL_law_302 (w_X7_join_bad 999 _ am (xs (i + 1).toNatClampNeg) (xs (i + 2).toNatClampNeg) k gr mn sp rw px py pz GA MN SP RW PX PY PZ (by decide) hW hm rk rgr rmn rsp q4 q6 q7 q8 rGA rMN rSP b4 b6 b7 b8 (fun q => cX ⟨q.2.2.1, q.2.2.2⟩)) (by decide) (Nat.zero_le _) (Nat.zero_le _) (Nat.le_of_ble_eq_true rfl) (fun r V3 h => ?_)
    obtain ⟨⟨y2, rfl, -, -, hy2⟩, hE⟩ := h
    have hE := hE.symm
    subst hE
    refine J_pop dL_law_305 rfl ?_
    refine J_goto (tgt := 908) dL_law_306 (by decide) ?_
    exact J.less (kc' := 5 * N + 8 * G2) (ks' := 491 * N + 20013 * G2) (by omega) (by omega) (kk _ G2 hW hx hm hg hr hc hG2)
  have hw9B : (((xs (i + 2).toNatClampNeg).toInt.toNat : Nat) : Int) < k.toInt := by omega
  obtain ⟨SB, XB, YB, ZB, hfoB, hrowB, hwvB⟩ := hrows (xs (i + 2).toNatClampNeg).toInt.toNat hw9B
  obtain ⟨⟨MB, mMB, eMB⟩, ⟨gB, mgB, egB⟩, ⟨nB, nnB, enB⟩, s1B, s2B, s3B, s4B, a1B, a2B, a3B, a4B⟩ := id hrowB
  obtain rfl := jI_inj.mp egB
  obtain rfl := jI_inj.mp enB
  obtain ⟨hg9B, hn9B, hstB, hjvB, havB⟩ := id hwvB
  have hTSB : ∀ q : Nat, q < (MN (xs (i + 2).toNatClampNeg).toInt.toNat).toInt.toNat → (SB q).toInt = (SP (60 * (xs (i + 2).toNatClampNeg).toInt.toNat + q)).toInt := fun q hq => (hstB q (by omega)).1
  have hSrB : ∀ j : Nat, (j : Int) < (MN (xs (i + 2).toNatClampNeg).toInt.toNat).toInt → 0 ≤ (SB j).toInt ∧ (SB j).toInt < jdir (GA (xs (i + 2).toNatClampNeg).toInt.toNat).toInt := fun j hj => by rw [(hstB j hj).1]; exact (hstB j hj).2
  have hPrB : ∀ j : Nat, (j : Int) < (MN (xs (i + 2).toNatClampNeg).toInt.toNat).toInt → 0 ≤ (SP (60 * (xs (i + 2).toNatClampNeg).toInt.toNat + j)).toInt ∧ (SP (60 * (xs (i + 2).toNatClampNeg).toInt.toNat + j)).toInt < jdir (GA (xs (i + 2).toNatClampNeg).toInt.toNat).toInt := fun j hj => (hstB j hj).2
  have hjvSB := hjvB.congr (U := fun q => (SB q).toInt) (fun q hq => (hTSB q hq).symm)
  have havSB := havB.congr (U := fun q => (SB q).toInt) (fun q hq => (hTSB q hq).symm)
  by_cases cE : (GA ((xs (i + 1).toNatClampNeg).toInt.toNat)).toInt = (GA ((xs (i + 2).toNatClampNeg).toInt.toNat)).toInt
  rotate_left
  · skip
    refine Jw_callV2 (q9 := (RX6, TX6, 7)) moX6_join jw_ml_L_32 jw_im_X6_join jw_se_X6_join hx rfl rfl dL_law_287 (w_X6_join_dif 999 _ ax (xs (i + 1).toNatClampNeg) (xs (i + 2).toNatClampNeg) k md f (A ((xs (i + 1).toNatClampNeg).toInt.toNat)).1 M (GA ((xs (i + 1).toNatClampNeg).toInt.toNat)) (MN ((xs (i + 1).toNatClampNeg).toInt.toNat)) (A ((xs (i + 1).toNatClampNeg).toInt.toNat)).2.1 (A ((xs (i + 1).toNatClampNeg).toInt.toNat)).2.2.1 (A ((xs (i + 1).toNatClampNeg).toInt.toNat)).2.2.2.1 (A ((xs (i + 1).toNatClampNeg).toInt.toNat)).2.2.2.2 S X Y Z (A ((xs (i + 2).toNatClampNeg).toInt.toNat)).1 MB (GA ((xs (i + 2).toNatClampNeg).toInt.toNat)) (MN ((xs (i + 2).toNatClampNeg).toInt.toNat)) (A ((xs (i + 2).toNatClampNeg).toInt.toNat)).2.1 (A ((xs (i + 2).toNatClampNeg).toInt.toNat)).2.2.1 (A ((xs (i + 2).toNatClampNeg).toInt.toNat)).2.2.2.1 (A ((xs (i + 2).toNatClampNeg).toInt.toNat)).2.2.2.2 SB XB YB ZB (by decide) hW hx ck cmd cA mM mg nn s1 s2 s3 s4 a1 a2 a3 a4 eM hn9.2 hfo mMB mgB nnB s1B s2B s3B s4B a1B a2B a3B a4B eMB hn9B.2 hfoB cW.1 cW.2 cX.1 cX.2 cE) (by decide) (Nat.zero_le _) (Nat.zero_le _) (Nat.le_of_ble_eq_true rfl) (fun r V4 h => ?_)
    obtain ⟨⟨y1, rfl, -, -, hy1⟩, hE⟩ := h
    have hE := hE.symm
    subst hE
    refine J.less (kc' := 5 * N + 8 * G) (ks' := 491 * N + 20013 * G) (by omega) (by omega) ?_
    obtain ⟨G2, hGe⟩ : ∃ G2 : Nat, G2 = G := ⟨_, rfl⟩
    have hG2 : G2 ≤ G := Nat.le_of_eq hGe
    rw [← hGe] at hg ⊢
    refine J_pop dL_law_290 rfl ?_
    refine J_aload_n dL_law_291 rfl ?_
    refine J_aload_n dL_law_292 rfl ?_
    refine J_iload_n dL_law_293 rfl ?_
    refine J_iconst (v := 1) dL_law_294 (by decide) ?_
    refine J_iadd dL_law_295 ?_
    refine J_sld hs9 dL_law_296 hin1 ?_
    refine J_aload_n dL_law_297 rfl ?_
    refine J_iload_n dL_law_298 rfl ?_
    refine J_iconst (v := 2) dL_law_299 (by decide) ?_
    refine J_iadd dL_law_300 ?_
    refine J_sld hs9 dL_law_301 hin2 ?_
    refine Jw_callV2 (q9 := (RX7, TX7, 34)) moX7_join jw_ml_L_35 jw_im_X7_join jw_se_X7_join hm rfl rfl dL_law_302 (w_X7_join_dif 999 _ am (xs (i + 1).toNatClampNeg) (xs (i + 2).toNatClampNeg) k gr mn sp rw px py pz GA MN SP RW PX PY PZ (by decide) hW hm rk rgr rmn rsp q4 q6 q7 q8 rGA rMN rSP b4 b6 b7 b8 cW.1 cW.2 cX.1 cX.2 cE) (by decide) (Nat.zero_le _) (Nat.zero_le _) (Nat.le_of_ble_eq_true rfl) (fun r V3 h => ?_)
    obtain ⟨⟨y2, rfl, -, -, hy2⟩, hE⟩ := h
    have hE := hE.symm
    subst hE
    refine J_pop dL_law_305 rfl ?_
    refine J_goto (tgt := 908) dL_law_306 (by decide) ?_
    exact J.less (kc' := 5 * N + 8 * G2) (ks' := 491 * N + 20013 * G2) (by omega) (by omega) (kk _ G2 hW hx hm hg hr hc hG2)
  obtain ⟨gT9, nT9, ST, XT, YT, ZT, htr, z1, z2, z3⟩ := id ht1
  obtain ⟨⟨MT, tM, tE⟩, ⟨gT, tg, tge⟩, ⟨nT, tn, tne⟩, t1, t2, t3, t4, u1, u2, u3, u4⟩ := id htr
  have hnT : 0 ≤ nT.toInt ∧ nT.toInt ≤ 120 := by obtain ⟨fsT, hOT, hFT⟩ := id tn; exact jok_rngI (hW _ _ id hOT) rfl hFT
  have hAB := jdisj hrow htr (hsp.2 _ hw9)
  have hBA := jdisj htr hrow (hsp.2 _ hw9).symm
  have hcg : ∀ q : Nat, q < (MN ((xs (i + 1).toNatClampNeg).toInt.toNat)).toInt.toNat + (MN ((xs (i + 2).toNatClampNeg).toInt.toNat)).toInt.toNat → (jTj (fun q => (S q).toInt) (MN ((xs (i + 1).toNatClampNeg).toInt.toNat)).toInt.toNat (fun q => (SB q).toInt)) q = jTj (fun q => (SP (60 * ((xs (i + 1).toNatClampNeg).toInt.toNat) + q)).toInt) (MN ((xs (i + 1).toNatClampNeg).toInt.toNat)).toInt.toNat (fun q => (SP (60 * ((xs (i + 2).toNatClampNeg).toInt.toNat) + q)).toInt) q := jTj_congr hTS hTSB
  have hNT : ((MN ((xs (i + 1).toNatClampNeg).toInt.toNat)).toInt + (MN ((xs (i + 2).toNatClampNeg).toInt.toNat)).toInt).toNat = (MN ((xs (i + 1).toNatClampNeg).toInt.toNat)).toInt.toNat + (MN ((xs (i + 2).toNatClampNeg).toInt.toNat)).toInt.toNat := by omega
  by_cases cJ : jav (GA ((xs (i + 1).toNatClampNeg).toInt.toNat)).toInt (jTj (fun q => (S q).toInt) (MN ((xs (i + 1).toNatClampNeg).toInt.toNat)).toInt.toNat (fun q => (SB q).toInt)) ((MN ((xs (i + 1).toNatClampNeg).toInt.toNat)).toInt + (MN ((xs (i + 2).toNatClampNeg).toInt.toNat)).toInt).toNat
  rotate_left
  · skip
    refine Jw_callV2 (q9 := (RX6, TX6, 7)) moX6_join jw_ml_L_32 jw_im_X6_join jw_se_X6_join hx rfl rfl dL_law_287 (w_X6_join_no 999 _ ax (xs (i + 1).toNatClampNeg) (xs (i + 2).toNatClampNeg) k md T.1 f (A ((xs (i + 1).toNatClampNeg).toInt.toNat)).1 M (GA ((xs (i + 1).toNatClampNeg).toInt.toNat)) (MN ((xs (i + 1).toNatClampNeg).toInt.toNat)) (A ((xs (i + 1).toNatClampNeg).toInt.toNat)).2.1 (A ((xs (i + 1).toNatClampNeg).toInt.toNat)).2.2.1 (A ((xs (i + 1).toNatClampNeg).toInt.toNat)).2.2.2.1 (A ((xs (i + 1).toNatClampNeg).toInt.toNat)).2.2.2.2 S X Y Z (A ((xs (i + 2).toNatClampNeg).toInt.toNat)).1 MB (GA ((xs (i + 2).toNatClampNeg).toInt.toNat)) (MN ((xs (i + 2).toNatClampNeg).toInt.toNat)) (A ((xs (i + 2).toNatClampNeg).toInt.toNat)).2.1 (A ((xs (i + 2).toNatClampNeg).toInt.toNat)).2.2.1 (A ((xs (i + 2).toNatClampNeg).toInt.toNat)).2.2.2.1 (A ((xs (i + 2).toNatClampNeg).toInt.toNat)).2.2.2.2 SB XB YB ZB MT gT nT T.2.1 T.2.2.1 T.2.2.2.1 T.2.2.2.2 ST XT YT ZT (by decide) hW hx ck cmd ctr cA mM mg nn s1 s2 s3 s4 a1 a2 a3 a4 eM hn9.2 hfo mMB mgB nnB s1B s2B s3B s4B a1B a2B a3B a4B eMB hn9B.2 hfoB tM tg tn t1 t2 t3 t4 u1 u2 u3 u4 tE hnT.2 hAB hBA (jdisj hrowB htr (hsp.2 _ hw9B)) cW.1 cW.2 cX.1 cX.2 hg9.1 hg9.2 cE hSrB z1 z2 z3 hjvS havS cJ) (by decide) (Nat.zero_le _) (Nat.zero_le _) (Nat.le_of_ble_eq_true rfl) (fun r V4 h => ?_)
    obtain ⟨⟨hW, he, y1, rfl, -, -, hy1⟩, ht4, hfp⟩ := h
    have hx := hx.mono he.1
    have hm := hm.mono he.1
    have hg := hg.keep he (jnot_of rfl) (jnot_of rfl)
    have hc := hc.keep he (jdis_of rfl)
    have rk := rk.keep he (jnot_of rfl)
    have rgr := rgr.mono he.1
    have rmn := rmn.mono he.1
    have rsp := rsp.mono he.1
    have q4 := q4.mono he.1
    have q6 := q6.mono he.1
    have q7 := q7.mono he.1
    have q8 := q8.mono he.1
    have rGA := he.2 _ _ rGA (jnot_of rfl)
    have rMN := he.2 _ _ rMN (jnot_of rfl)
    have rSP := he.2 _ _ rSP (jnot_of rfl)
    have b4 := he.2 _ _ b4 (jnot_of rfl)
    have b6 := he.2 _ _ b6 (jnot_of rfl)
    have b7 := he.2 _ _ b7 (jnot_of rfl)
    have b8 := he.2 _ _ b8 (jnot_of rfl)
    have hr : jRL V4 ax am := ⟨jrs.tri2 hc1 hr1 ht1 hk hrows hsp he (jdis_of rfl) hfp ht4, hp.own he (jnot_of rfl) (jnot_of rfl) (jnot_of rfl), hff.mono he.1⟩
    refine J.less (kc' := 5 * N + 8 * G) (ks' := 491 * N + 20013 * G) (by omega) (by omega) ?_
    obtain ⟨G2, hGe⟩ : ∃ G2 : Nat, G2 = G := ⟨_, rfl⟩
    have hG2 : G2 ≤ G := Nat.le_of_eq hGe
    rw [← hGe] at hg ⊢
    refine J_pop dL_law_290 rfl ?_
    refine J_aload_n dL_law_291 rfl ?_
    refine J_aload_n dL_law_292 rfl ?_
    refine J_iload_n dL_law_293 rfl ?_
    refine J_iconst (v := 1) dL_law_294 (by decide) ?_
    refine J_iadd dL_law_295 ?_
    refine J_sld hs9 dL_law_296 hin1 ?_
    refine J_aload_n dL_law_297 rfl ?_
    refine J_iload_n dL_law_298 rfl ?_
    refine J_iconst (v := 2) dL_law_299 (by decide) ?_
    refine J_iadd dL_law_300 ?_
    refine J_sld hs9 dL_law_301 hin2 ?_
    refine Jw_callV2 (q9 := (RX7, TX7, 34)) moX7_join jw_ml_L_35 jw_im_X7_join jw_se_X7_join hm rfl rfl dL_law_302 (w_X7_join_no 999 _ am (xs (i + 1).toNatClampNeg) (xs (i + 2).toNatClampNeg) k gr mn sp rw px py pz GA MN SP RW PX PY PZ (by decide) hW hm rk rgr rmn rsp q4 q6 q7 q8 rGA rMN rSP b4 b6 b7 b8 cW.1 cW.2 cX.1 cX.2 cE (fun h => cJ (h.congr (fun q hq => (hcg q (by omega)).symm)))) (by decide) (Nat.zero_le _) (Nat.zero_le _) (Nat.le_of_ble_eq_true rfl) (fun r V3 h => ?_)
    obtain ⟨⟨hW, he5, y2, rfl, -, -, hy2⟩, hkp⟩ := h
    have hx := hx.mono he5.1
    have hm := hm.mono he5.1
    have hg := hg.keep he5 (jnot_of rfl) (jnot_of rfl)
    have hc := hc.keep he5 (jdis_of rfl)
    have hr := hr.ref he5 hkp (by decide) (jdis_of rfl)
    refine J_pop dL_law_305 rfl ?_
    refine J_goto (tgt := 908) dL_law_306 (by decide) ?_
    exact J.less (kc' := 5 * N + 8 * G2) (ks' := 491 * N + 20013 * G2) (by omega) (by omega) (kk _ G2 hW hx hm hg hr hc hG2)
  have cJr := cJ.congr (fun q hq => hcg q (by omega))
  by_cases cF : 60 < ((MN ((xs (i + 1).toNatClampNeg).toInt.toNat)).toInt + (MN ((xs (i + 2).toNatClampNeg).toInt.toNat)).toInt)
  · skip
    refine Jw_callV2 (q9 := (RX6, TX6, 7)) moX6_join jw_ml_L_32 jw_im_X6_join jw_se_X6_join hx rfl rfl dL_law_287 (w_X6_join_full 999 _ ax (xs (i + 1).toNatClampNeg) (xs (i + 2).toNatClampNeg) k md T.1 f (A ((xs (i + 1).toNatClampNeg).toInt.toNat)).1 M (GA ((xs (i + 1).toNatClampNeg).toInt.toNat)) (MN ((xs (i + 1).toNatClampNeg).toInt.toNat)) (A ((xs (i + 1).toNatClampNeg).toInt.toNat)).2.1 (A ((xs (i + 1).toNatClampNeg).toInt.toNat)).2.2.1 (A ((xs (i + 1).toNatClampNeg).toInt.toNat)).2.2.2.1 (A ((xs (i + 1).toNatClampNeg).toInt.toNat)).2.2.2.2 S X Y Z (A ((xs (i + 2).toNatClampNeg).toInt.toNat)).1 MB (GA ((xs (i + 2).toNatClampNeg).toInt.toNat)) (MN ((xs (i + 2).toNatClampNeg).toInt.toNat)) (A ((xs (i + 2).toNatClampNeg).toInt.toNat)).2.1 (A ((xs (i + 2).toNatClampNeg).toInt.toNat)).2.2.1 (A ((xs (i + 2).toNatClampNeg).toInt.toNat)).2.2.2.1 (A ((xs (i + 2).toNatClampNeg).toInt.toNat)).2.2.2.2 SB XB YB ZB MT gT nT T.2.1 T.2.2.1 T.2.2.2.1 T.2.2.2.2 ST XT YT ZT (by decide) hW hx ck cmd ctr cA mM mg nn s1 s2 s3 s4 a1 a2 a3 a4 eM hn9.2 hfo mMB mgB nnB s1B s2B s3B s4B a1B a2B a3B a4B eMB hn9B.2 hfoB tM tg tn t1 t2 t3 t4 u1 u2 u3 u4 tE hnT.2 hAB hBA (jdisj hrowB htr (hsp.2 _ hw9B)) cW.1 cW.2 cX.1 cX.2 hg9.1 hg9.2 cE hSrB z1 z2 z3 hjvS havS cJ cF) (by decide) (Nat.zero_le _) (Nat.zero_le _) (Nat.le_of_ble_eq_true rfl) (fun r V4 h => ?_)
    obtain ⟨⟨hW, he, y1, rfl, -, -, hy1⟩, ht4, hfp⟩ := h
    have hx := hx.mono he.1
    have hm := hm.mono he.1
    have hg := hg.keep he (jnot_of rfl) (jnot_of rfl)
    have hc := hc.keep he (jdis_of rfl)
    have rk := rk.keep he (jnot_of rfl)
    have rgr := rgr.mono he.1
    have rmn := rmn.mono he.1
    have rsp := rsp.mono he.1
    have q4 := q4.mono he.1
    have q6 := q6.mono he.1
    have q7 := q7.mono he.1
    have q8 := q8.mono he.1
    have rGA := he.2 _ _ rGA (jnot_of rfl)
    have rMN := he.2 _ _ rMN (jnot_of rfl)
    have rSP := he.2 _ _ rSP (jnot_of rfl)
    have b4 := he.2 _ _ b4 (jnot_of rfl)
    have b6 := he.2 _ _ b6 (jnot_of rfl)
    have b7 := he.2 _ _ b7 (jnot_of rfl)
    have b8 := he.2 _ _ b8 (jnot_of rfl)
    have hr : jRL V4 ax am := ⟨jrs.tri2 hc1 hr1 ht1 hk hrows hsp he (jdis_of rfl) hfp ht4, hp.own he (jnot_of rfl) (jnot_of rfl) (jnot_of rfl), hff.mono he.1⟩
    refine J.less (kc' := 5 * N + 8 * G) (ks' := 491 * N + 20013 * G) (by omega) (by omega) ?_
    obtain ⟨G2, hGe⟩ : ∃ G2 : Nat, G2 = G := ⟨_, rfl⟩
    have hG2 : G2 ≤ G := Nat.le_of_eq hGe
    rw [← hGe] at hg ⊢
    refine J_pop dL_law_290 rfl ?_
    refine J_aload_n dL_law_291 rfl ?_
    refine J_aload_n dL_law_292 rfl ?_
    refine J_iload_n dL_law_293 rfl ?_
    refine J_iconst (v := 1) dL_law_294 (by decide) ?_
    refine J_iadd dL_law_295 ?_
    refine J_sld hs9 dL_law_296 hin1 ?_
    refine J_aload_n dL_law_297 rfl ?_
    refine J_iload_n dL_law_298 rfl ?_
    refine J_iconst (v := 2) dL_law_299 (by decide) ?_
    refine J_iadd dL_law_300 ?_
    refine J_sld hs9 dL_law_301 hin2 ?_
    refine Jw_callV2 (q9 := (RX7, TX7, 34)) moX7_join jw_ml_L_35 jw_im_X7_join jw_se_X7_join hm rfl rfl dL_law_302 (w_X7_join_full 999 _ am (xs (i + 1).toNatClampNeg) (xs (i + 2).toNatClampNeg) k gr mn sp rw px py pz GA MN SP RW PX PY PZ (by decide) hW hm rk rgr rmn rsp q4 q6 q7 q8 rGA rMN rSP b4 b6 b7 b8 cW.1 cW.2 cX.1 cX.2 cE cJr cF) (by decide) (Nat.zero_le _) (Nat.zero_le _) (Nat.le_of_ble_eq_true rfl) (fun r V3 h => ?_)
    obtain ⟨⟨hW, he5, y2, rfl, -, -, hy2⟩, hkp⟩ := h
    have hx := hx.mono he5.1
    have hm := hm.mono he5.1
    have hg := hg.keep he5 (jnot_of rfl) (jnot_of rfl)
    have hc := hc.keep he5 (jdis_of rfl)
    have hr := hr.ref he5 hkp (by decide) (jdis_of rfl)
    refine J_pop dL_law_305 rfl ?_
    refine J_goto (tgt := 908) dL_law_306 (by decide) ?_
    exact J.less (kc' := 5 * N + 8 * G2) (ks' := 491 * N + 20013 * G2) (by omega) (by omega) (kk _ G2 hW hx hm hg hr hc hG2)
  refine Jw_callV2 (q9 := (RX6, TX6, 7)) moX6_join jw_ml_L_32 jw_im_X6_join jw_se_X6_join hx rfl rfl dL_law_287 (w_X6_join_ok 999 _ ax (xs (i + 1).toNatClampNeg) (xs (i + 2).toNatClampNeg) k md T.1 f (A ((xs (i + 1).toNatClampNeg).toInt.toNat)).1 M (GA ((xs (i + 1).toNatClampNeg).toInt.toNat)) (MN ((xs (i + 1).toNatClampNeg).toInt.toNat)) (A ((xs (i + 1).toNatClampNeg).toInt.toNat)).2.1 (A ((xs (i + 1).toNatClampNeg).toInt.toNat)).2.2.1 (A ((xs (i + 1).toNatClampNeg).toInt.toNat)).2.2.2.1 (A ((xs (i + 1).toNatClampNeg).toInt.toNat)).2.2.2.2 S X Y Z (A ((xs (i + 2).toNatClampNeg).toInt.toNat)).1 MB (GA ((xs (i + 2).toNatClampNeg).toInt.toNat)) (MN ((xs (i + 2).toNatClampNeg).toInt.toNat)) (A ((xs (i + 2).toNatClampNeg).toInt.toNat)).2.1 (A ((xs (i + 2).toNatClampNeg).toInt.toNat)).2.2.1 (A ((xs (i + 2).toNatClampNeg).toInt.toNat)).2.2.2.1 (A ((xs (i + 2).toNatClampNeg).toInt.toNat)).2.2.2.2 SB XB YB ZB MT gT nT T.2.1 T.2.2.1 T.2.2.2.1 T.2.2.2.2 ST XT YT ZT (by decide) hW hx ck cmd ctr cA mM mg nn s1 s2 s3 s4 a1 a2 a3 a4 eM hn9.2 hfo mMB mgB nnB s1B s2B s3B s4B a1B a2B a3B a4B eMB hn9B.2 hfoB tM tg tn t1 t2 t3 t4 u1 u2 u3 u4 tE hnT.2 hAB hBA (jdisj hrowB htr (hsp.2 _ hw9B)) cW.1 cW.2 cX.1 cX.2 hg9.1 hg9.2 cE hSrB z1 z2 z3 hjvS havS cJ (by omega)) (by decide) (Nat.zero_le _) (Nat.zero_le _) (Nat.le_of_ble_eq_true rfl) (fun r V4 h => ?_)
  obtain ⟨⟨hW, he, y1, rfl, -, -, hy1⟩, ⟨S2, X2, Y2, Z2, hj2, hS2, hv2⟩, ht4, hfp⟩ := h
  have hx := hx.mono he.1
  have hm := hm.mono he.1
  have hg := hg.keep he (jnot_of rfl) (jnot_of rfl)
  have hc := hc.keep he (jdis_of rfl)
  have rk := rk.keep he (jnot_of rfl)
  have rgr := rgr.mono he.1
  have rmn := rmn.mono he.1
  have rsp := rsp.mono he.1
  have q4 := q4.mono he.1
  have q6 := q6.mono he.1
  have q7 := q7.mono he.1
  have q8 := q8.mono he.1
  have rGA := he.2 _ _ rGA (jnot_of rfl)
  have rMN := he.2 _ _ rMN (jnot_of rfl)
  have rSP := he.2 _ _ rSP (jnot_of rfl)
  have b4 := he.2 _ _ b4 (jnot_of rfl)
  have b6 := he.2 _ _ b6 (jnot_of rfl)
  have b7 := he.2 _ _ b7 (jnot_of rfl)
  have b8 := he.2 _ _ b8 (jnot_of rfl)
  have hwv2 : jwv (GA ((xs (i + 1).toNatClampNeg).toInt.toNat)).toInt ((MN ((xs (i + 1).toNatClampNeg).toInt.toNat)).toInt + (MN ((xs (i + 2).toNatClampNeg).toInt.toNat)).toInt) (jTj (fun q => (S q).toInt) (MN ((xs (i + 1).toNatClampNeg).toInt.toNat)).toInt.toNat (fun q => (SB q).toInt)) S2 X2 Y2 Z2 := jwv.mk hg9 (by omega) (by omega) hS2 (jTj_rng hn9.1 hSr (by rw [cE]; exact hSrB)) hv2 cJ
  have hL : ∀ b : Nat, b ∉ jadl (A ((xs (i + 1).toNatClampNeg).toInt.toNat)) → b ∉ jadl T → V4 b = V b := fun b q1 q2 => hfp b (fun z => (List.mem_append.mp (show b ∈ jadl (A ((xs (i + 1).toNatClampNeg).toInt.toNat)) ++ jadl T from z)).elim q1 q2)
  refine J.less (kc' := 5 * N + 8 * G) (ks' := 491 * N + 20013 * G) (by omega) (by omega) ?_
  obtain ⟨G2, hGe⟩ : ∃ G2 : Nat, G2 = G := ⟨_, rfl⟩
  have hG2 : G2 ≤ G := Nat.le_of_eq hGe
  rw [← hGe] at hg ⊢
  refine J_pop dL_law_290 rfl ?_
  refine J_aload_n dL_law_291 rfl ?_
  refine J_aload_n dL_law_292 rfl ?_
  refine J_iload_n dL_law_293 rfl ?_
  refine J_iconst (v := 1) dL_law_294 (by decide) ?_
  refine J_iadd dL_law_295 ?_
  refine J_sld hs9 dL_law_296 hin1 ?_
  refine J_aload_n dL_law_297 rfl ?_
  refine J_iload_n dL_law_298 rfl ?_
  refine J_iconst (v := 2) dL_law_299 (by decide) ?_
  refine J_iadd dL_law_300 ?_
  refine J_sld hs9 dL_law_301 hin2 ?_
  refine Jw_callV2 (q9 := (RX7, TX7, 34)) moX7_join jw_ml_L_35 jw_im_X7_join jw_se_X7_join hm rfl rfl dL_law_302 (w_X7_join_ok 999 _ am (xs (i + 1).toNatClampNeg) (xs (i + 2).toNatClampNeg) k gr mn sp rw px py pz GA MN SP RW PX PY PZ (by decide) hW hm rk rgr rmn rsp q4 q6 q7 q8 rGA rMN rSP b4 b6 b7 b8 cW.1 cW.2 cX.1 cX.2 cE cJr (by omega)) (by decide) (Nat.zero_le _) (Nat.zero_le _) (Nat.le_of_ble_eq_true rfl) (fun r V3 h => ?_)
  obtain ⟨⟨hW, he5, y2, rfl, -, -, hy2⟩, ⟨M2, hM2, hMw, hMo⟩, ⟨P2, hP2, hPw, hPo⟩, hkp⟩ := h
  have hx := hx.mono he5.1
  have hm := hm.mono he5.1
  have hg := hg.keep he5 (jnot_of rfl) (jnot_of rfl)
  have hc := hc.keep he5 (jdis_of rfl)
  have hr : jRL _ ax am := ⟨jrs.done hc1 hk hrows hsp ht1 hw9 he (jnot_of rfl) (jnot_of rfl) hL ht4 he5 (jdis_of rfl) (jnot_of rfl) (jnot_of rfl) ⟨rk.kp hkp (by decide), rgr.mono he5.1, rmn.mono he5.1, rsp.mono he5.1, he5.2 _ _ rGA (jnot_of rfl), hM2, hP2⟩ hMw hMo (fun j hj => by rw [hPw j hj]; exact (hcg j (by omega)).symm) hPo hfo hj2 hwv2, (hp.own he (jnot_of rfl) (jnot_of rfl) (jnot_of rfl)).ref he5 (jnot_of rfl) hkp (by decide) (jnot_of rfl), (hff.mono he.1).mono he5.1⟩
  refine J_pop dL_law_305 rfl ?_
  refine J_goto (tgt := 908) dL_law_306 (by decide) ?_
  exact J.less (kc' := 5 * N + 8 * G2) (ks' := 491 * N + 20013 * G2) (by omega) (by omega) (kk _ G2 hW hx hm hg hr hc hG2)
set_option maxRecDepth 100000 in
set_option maxHeartbeats 4000000 in
theorem lawc_5 {tS : jTS} {b L : Nat} {xs : Nat → Int32} (hs9 : tS.2 = some (b, L, xs)) (V : jH) (ax am : Nat) (i : Int32) (G N : Nat) {Q : Option Value → jH → Prop} (hW : WT V) (hx : jis V (.inr 4) ax) (hm : jis V (.inr 5) am) (hg : jphi V ax G) (hr : jRL V ax am) (hc : jTX V ax am) (hin1 : vp_in (i + 1) L) (hin2 : vp_in (i + 2) L) (hin3 : vp_in (i + 3) L) (kk : ∀ (V2 : jH) (G2 : Nat), WT V2 → jis V2 (.inr 4) ax → jis V2 (.inr 5) am → jphi V2 ax G2 → jRL V2 ax am → jTX V2 ax am → G2 ≤ G → J tS mL_law 1000 908 [some (.ref b), some (.ref ax), some (.ref am), some (.int i)] [] V2 (5 * N + 8 * G2) (491 * N + 20013 * G2) Q) : J tS mL_law 1000 309 [some (.ref b), some (.ref ax), some (.ref am), some (.int i)] [] V (5 * (N + 1) + 8 * G) (491 * (N + 1) + 20013 * G) Q := by
  refine J_aload_n dL_law_309 rfl ?_
  refine J_aload_n dL_law_310 rfl ?_
  refine J_iload_n dL_law_311 rfl ?_
  refine J_iconst (v := 1) dL_law_312 (by decide) ?_
  refine J_iadd dL_law_313 ?_
  refine J_sld hs9 dL_law_314 hin1 ?_
  obtain ⟨hs, hp, hff⟩ := id hr
  obtain ⟨k, md, gr, mn, sp, f, GA, MN, SP, A, T, hc1, hr1, ht1, hk, hrows, hsp⟩ := id hs
  obtain ⟨ck, cmd, cA, ctr⟩ := id hc1
  obtain ⟨rk, rgr, rmn, rsp, rGA, rMN, rSP⟩ := id hr1
  obtain ⟨rw, px, py, pz, RW, PX, PY, PZ, q4, q6, q7, q8, b4, b6, b7, b8⟩ := WT_ref hW hm
  by_cases cW : 0 ≤ (xs (i + 1).toNatClampNeg).toInt ∧ (xs (i + 1).toNatClampNeg).toInt < k.toInt
  rotate_left
  · skip
    refine Jw_callV1 (q9 := (RX6, TX6, 7)) moX6_turnBack jw_ml_L_36 jw_im_X6_turnBack jw_se_X6_turnBack hx rfl rfl dL_law_315 (w_X6_turnBack_out 999 _ ax (xs (i + 1).toNatClampNeg) k md (by decide) hW hx ck cmd cW) (by decide) (Nat.zero_le _) (Nat.zero_le _) (Nat.le_of_ble_eq_true rfl) (fun r V4 h => ?_)
    obtain ⟨⟨y1, rfl, -, -, hy1⟩, hE⟩ := h
    have hE := hE.symm
    subst hE
    refine J.less (kc' := 5 * N + 8 * G) (ks' := 491 * N + 20013 * G) (by omega) (by omega) ?_
    obtain ⟨G2, hGe⟩ : ∃ G2 : Nat, G2 = G := ⟨_, rfl⟩
    have hG2 : G2 ≤ G := Nat.le_of_eq hGe
    rw [← hGe] at hg ⊢
    refine J_pop dL_law_318 rfl ?_
    refine J_aload_n dL_law_319 rfl ?_
    refine J_aload_n dL_law_320 rfl ?_
    refine J_iload_n dL_law_321 rfl ?_
    refine J_iconst (v := 1) dL_law_322 (by decide) ?_
    refine J_iadd dL_law_323 ?_
    refine J_sld hs9 dL_law_324 hin1 ?_
    refine Jw_callV1 (q9 := (RX7, TX7, 34)) moX7_turnBack jw_ml_L_39 jw_im_X7_turnBack jw_se_X7_turnBack hm rfl rfl dL_law_325 (w_X7_turnBack_bad 999 _ am (xs (i + 1).toNatClampNeg) k gr mn sp rw px py pz GA MN SP RW PX PY PZ (by decide) hW hm rk rgr rmn rsp q4 q6 q7 q8 rGA rMN rSP b4 b6 b7 b8 cW) (by decide) (Nat.zero_le _) (Nat.zero_le _) (Nat.le_of_ble_eq_true rfl) (fun r V3 h => ?_)
    obtain ⟨⟨y2, rfl, -, -, hy2⟩, hE⟩ := h
    have hE := hE.symm
    subst hE
    refine J_pop dL_law_328 rfl ?_
    refine J_goto (tgt := 908) dL_law_329 (by decide) ?_
    exact J.less (kc' := 5 * N + 8 * G2) (ks' := 491 * N + 20013 * G2) (by omega) (by omega) (kk _ G2 hW hx hm hg hr hc hG2)
  have hw9 : (((xs (i + 1).toNatClampNeg).toInt.toNat : Nat) : Int) < k.toInt := by omega
  obtain ⟨S, X, Y, Z, hfo, hrow, hwv⟩ := hrows (xs (i + 1).toNatClampNeg).toInt.toNat hw9
  obtain ⟨⟨M, mM, eM⟩, ⟨g, mg, eg⟩, ⟨n, nn, en⟩, s1, s2, s3, s4, a1, a2, a3, a4⟩ := id hrow
  obtain rfl := jI_inj.mp eg
  obtain rfl := jI_inj.mp en
  obtain ⟨hg9, hn9, hst, hjv, hav⟩ := id hwv
  have hTS : ∀ q : Nat, q < (MN (xs (i + 1).toNatClampNeg).toInt.toNat).toInt.toNat → (S q).toInt = (SP (60 * (xs (i + 1).toNatClampNeg).toInt.toNat + q)).toInt := fun q hq => (hst q (by omega)).1
  have hSr : ∀ j : Nat, (j : Int) < (MN (xs (i + 1).toNatClampNeg).toInt.toNat).toInt → 0 ≤ (S j).toInt ∧ (S j).toInt < jdir (GA (xs (i + 1).toNatClampNeg).toInt.toNat).toInt := fun j hj => by rw [(hst j hj).1]; exact (hst j hj).2
  have hPr : ∀ j : Nat, (j : Int) < (MN (xs (i + 1).toNatClampNeg).toInt.toNat).toInt → 0 ≤ (SP (60 * (xs (i + 1).toNatClampNeg).toInt.toNat + j)).toInt ∧ (SP (60 * (xs (i + 1).toNatClampNeg).toInt.toNat + j)).toInt < jdir (GA (xs (i + 1).toNatClampNeg).toInt.toNat).toInt := fun j hj => (hst j hj).2
  have hjvS := hjv.congr (U := fun q => (S q).toInt) (fun q hq => (hTS q hq).symm)
  have havS := hav.congr (U := fun q => (S q).toInt) (fun q hq => (hTS q hq).symm)
  have hPQ : jPt (GA ((xs (i + 1).toNatClampNeg).toInt.toNat)).toInt (fun q => (S q).toInt) (MN ((xs (i + 1).toNatClampNeg).toInt.toNat)).toInt.toNat = jPt (GA ((xs (i + 1).toNatClampNeg).toInt.toNat)).toInt (fun q => (SP (60 * ((xs (i + 1).toNatClampNeg).toInt.toNat) + q)).toInt) (MN ((xs (i + 1).toNatClampNeg).toInt.toNat)).toInt.toNat := jPt_congr _ hTS
  by_cases cP : (GA ((xs (i + 1).toNatClampNeg).toInt.toNat)).toInt = 2 → ((jPt (GA ((xs (i + 1).toNatClampNeg).toInt.toNat)).toInt (fun q => (S q).toInt) (MN ((xs (i + 1).toNatClampNeg).toInt.toNat)).toInt.toNat).1 + (jPt (GA ((xs (i + 1).toNatClampNeg).toInt.toNat)).toInt (fun q => (S q).toInt) (MN ((xs (i + 1).toNatClampNeg).toInt.toNat)).toInt.toNat).2.1) % 2 = 0
  rotate_left
  · skip
    have cP1 : (GA ((xs (i + 1).toNatClampNeg).toInt.toNat)).toInt = 2 := Classical.byContradiction (fun z => cP (fun q => absurd q z))
    have cP2 : ¬ ((jPt (GA ((xs (i + 1).toNatClampNeg).toInt.toNat)).toInt (fun q => (S q).toInt) (MN ((xs (i + 1).toNatClampNeg).toInt.toNat)).toInt.toNat).1 + (jPt (GA ((xs (i + 1).toNatClampNeg).toInt.toNat)).toInt (fun q => (S q).toInt) (MN ((xs (i + 1).toNatClampNeg).toInt.toNat)).toInt.toNat).2.1) % 2 = 0 := fun z => cP (fun _ => z)
    refine Jw_callV1 (q9 := (RX6, TX6, 7)) moX6_turnBack jw_ml_L_36 jw_im_X6_turnBack jw_se_X6_turnBack hx rfl rfl dL_law_315 (w_X6_turnBack_odd 999 _ ax (xs (i + 1).toNatClampNeg) k md f (A ((xs (i + 1).toNatClampNeg).toInt.toNat)).1 M (GA ((xs (i + 1).toNatClampNeg).toInt.toNat)) (MN ((xs (i + 1).toNatClampNeg).toInt.toNat)) (A ((xs (i + 1).toNatClampNeg).toInt.toNat)).2.1 (A ((xs (i + 1).toNatClampNeg).toInt.toNat)).2.2.1 (A ((xs (i + 1).toNatClampNeg).toInt.toNat)).2.2.2.1 (A ((xs (i + 1).toNatClampNeg).toInt.toNat)).2.2.2.2 S X Y Z (by decide) hW hx ck cmd cA mM mg nn s1 s2 s3 s4 a1 a2 a3 a4 eM hn9.2 hfo cW.1 cW.2 hg9.1 hg9.2 hjvS cP1 cP2) (by decide) (Nat.zero_le _) (Nat.zero_le _) (Nat.le_of_ble_eq_true rfl) (fun r V4 h => ?_)
    obtain ⟨⟨y1, rfl, -, -, hy1⟩, hE⟩ := h
    have hE := hE.symm
    subst hE
    refine J.less (kc' := 5 * N + 8 * G) (ks' := 491 * N + 20013 * G) (by omega) (by omega) ?_
    obtain ⟨G2, hGe⟩ : ∃ G2 : Nat, G2 = G := ⟨_, rfl⟩
    have hG2 : G2 ≤ G := Nat.le_of_eq hGe
    rw [← hGe] at hg ⊢
    refine J_pop dL_law_318 rfl ?_
    refine J_aload_n dL_law_319 rfl ?_
    refine J_aload_n dL_law_320 rfl ?_
    refine J_iload_n dL_law_321 rfl ?_
    refine J_iconst (v := 1) dL_law_322 (by decide) ?_
    refine J_iadd dL_law_323 ?_
    refine J_sld hs9 dL_law_324 hin1 ?_
    refine Jw_callV1 (q9 := (RX7, TX7, 34)) moX7_turnBack jw_ml_L_39 jw_im_X7_turnBack jw_se_X7_turnBack hm rfl rfl dL_law_325 (w_X7_turnBack_odd 999 _ am (xs (i + 1).toNatClampNeg) k gr mn sp rw px py pz GA MN SP RW PX PY PZ (by decide) hW hm rk rgr rmn rsp q4 q6 q7 q8 rGA rMN rSP b4 b6 b7 b8 cW.1 cW.2 cP1 (by rw [← hPQ]; exact cP2)) (by decide) (Nat.zero_le _) (Nat.zero_le _) (Nat.le_of_ble_eq_true rfl) (fun r V3 h => ?_)
    obtain ⟨⟨hW, he5, y2, rfl, -, -, hy2⟩, hkp⟩ := h
    have hx := hx.mono he5.1
    have hm := hm.mono he5.1
    have hg := hg.keep he5 (jnot_of rfl) (jnot_of rfl)
    have hc := hc.keep he5 (jdis_of rfl)
    have hr := hr.ref he5 hkp (by decide) (jdis_of rfl)
    refine J_pop dL_law_328 rfl ?_
    refine J_goto (tgt := 908) dL_law_329 (by decide) ?_
    exact J.less (kc' := 5 * N + 8 * G2) (ks' := 491 * N + 20013 * G2) (by omega) (by omega) (kk _ G2 hW hx hm hg hr hc hG2)
  obtain ⟨gT9, nT9, ST, XT, YT, ZT, htr, z1, z2, z3⟩ := id ht1
  obtain ⟨⟨MT, tM, tE⟩, ⟨gT, tg, tge⟩, ⟨nT, tn, tne⟩, t1, t2, t3, t4, u1, u2, u3, u4⟩ := id htr
  have hnT : 0 ≤ nT.toInt ∧ nT.toInt ≤ 120 := by obtain ⟨fsT, hOT, hFT⟩ := id tn; exact jok_rngI (hW _ _ id hOT) rfl hFT
  have hAB := jdisj hrow htr (hsp.2 _ hw9)
  have hBA := jdisj htr hrow (hsp.2 _ hw9).symm
  have hcg : ∀ q : Nat, q < (MN ((xs (i + 1).toNatClampNeg).toInt.toNat)).toInt.toNat → (jTb (GA ((xs (i + 1).toNatClampNeg).toInt.toNat)).toInt (fun q => (S q).toInt) (MN ((xs (i + 1).toNatClampNeg).toInt.toNat)).toInt.toNat) q = jTb (GA ((xs (i + 1).toNatClampNeg).toInt.toNat)).toInt (fun q => (SP (60 * ((xs (i + 1).toNatClampNeg).toInt.toNat) + q)).toInt) (MN ((xs (i + 1).toNatClampNeg).toInt.toNat)).toInt.toNat q := jTb_congr hTS
  have cJ : jav (GA ((xs (i + 1).toNatClampNeg).toInt.toNat)).toInt (jTb (GA ((xs (i + 1).toNatClampNeg).toInt.toNat)).toInt (fun q => (S q).toInt) (MN ((xs (i + 1).toNatClampNeg).toInt.toNat)).toInt.toNat) (MN ((xs (i + 1).toNatClampNeg).toInt.toNat)).toInt.toNat := jav.back hg9.1 hg9.2 (fun i hi => hSr i (by omega)) cP (fun i _ => rfl) havS
  refine Jw_callV1 (q9 := (RX6, TX6, 7)) moX6_turnBack jw_ml_L_36 jw_im_X6_turnBack jw_se_X6_turnBack hx rfl rfl dL_law_315 (w_X6_turnBack_ok 999 _ ax (xs (i + 1).toNatClampNeg) k md T.1 f (A ((xs (i + 1).toNatClampNeg).toInt.toNat)).1 M (GA ((xs (i + 1).toNatClampNeg).toInt.toNat)) (MN ((xs (i + 1).toNatClampNeg).toInt.toNat)) (A ((xs (i + 1).toNatClampNeg).toInt.toNat)).2.1 (A ((xs (i + 1).toNatClampNeg).toInt.toNat)).2.2.1 (A ((xs (i + 1).toNatClampNeg).toInt.toNat)).2.2.2.1 (A ((xs (i + 1).toNatClampNeg).toInt.toNat)).2.2.2.2 S X Y Z MT gT nT T.2.1 T.2.2.1 T.2.2.2.1 T.2.2.2.2 ST XT YT ZT (by decide) hW hx ck cmd ctr cA mM mg nn s1 s2 s3 s4 a1 a2 a3 a4 eM hn9.2 hfo tM tg tn t1 t2 t3 t4 u1 u2 u3 u4 tE hnT.2 hAB hBA cW.1 cW.2 hg9.1 hg9.2 hjvS cP hSr z1 z2 z3 cJ) (by decide) (Nat.zero_le _) (Nat.zero_le _) (Nat.le_of_ble_eq_true rfl) (fun r V4 h => ?_)
  obtain ⟨⟨hW, he, y1, rfl, -, -, hy1⟩, ⟨S2, X2, Y2, Z2, hj2, hS2, hv2⟩, ht4, hfp⟩ := h
  have hx := hx.mono he.1
  have hm := hm.mono he.1
  have hg := hg.keep he (jnot_of rfl) (jnot_of rfl)
  have hc := hc.keep he (jdis_of rfl)
  have rk := rk.keep he (jnot_of rfl)
  have rgr := rgr.mono he.1
  have rmn := rmn.mono he.1
  have rsp := rsp.mono he.1
  have q4 := q4.mono he.1
  have q6 := q6.mono he.1
  have q7 := q7.mono he.1
  have q8 := q8.mono he.1
  have rGA := he.2 _ _ rGA (jnot_of rfl)
  have rMN := he.2 _ _ rMN (jnot_of rfl)
  have rSP := he.2 _ _ rSP (jnot_of rfl)
  have b4 := he.2 _ _ b4 (jnot_of rfl)
  have b6 := he.2 _ _ b6 (jnot_of rfl)
  have b7 := he.2 _ _ b7 (jnot_of rfl)
  have b8 := he.2 _ _ b8 (jnot_of rfl)
  have hwv2 : jwv (GA ((xs (i + 1).toNatClampNeg).toInt.toNat)).toInt (MN ((xs (i + 1).toNatClampNeg).toInt.toNat)).toInt (jTb (GA ((xs (i + 1).toNatClampNeg).toInt.toNat)).toInt (fun q => (S q).toInt) (MN ((xs (i + 1).toNatClampNeg).toInt.toNat)).toInt.toNat) S2 X2 Y2 Z2 := jwv.mk hg9 hn9.1 hn9.2 hS2 (jTb_rng hSr) hv2 cJ
  have hL : ∀ b : Nat, b ∉ jadl (A ((xs (i + 1).toNatClampNeg).toInt.toNat)) → b ∉ jadl T → V4 b = V b := fun b q1 q2 => hfp b (fun z => (List.mem_append.mp (show b ∈ jadl (A ((xs (i + 1).toNatClampNeg).toInt.toNat)) ++ jadl T from z)).elim q1 q2)
  refine J.less (kc' := 5 * N + 8 * G) (ks' := 491 * N + 20013 * G) (by omega) (by omega) ?_
  obtain ⟨G2, hGe⟩ : ∃ G2 : Nat, G2 = G := ⟨_, rfl⟩
  have hG2 : G2 ≤ G := Nat.le_of_eq hGe
  rw [← hGe] at hg ⊢
  refine J_pop dL_law_318 rfl ?_
  refine J_aload_n dL_law_319 rfl ?_
  refine J_aload_n dL_law_320 rfl ?_
  refine J_iload_n dL_law_321 rfl ?_
  refine J_iconst (v := 1) dL_law_322 (by decide) ?_
  refine J_iadd dL_law_323 ?_
  refine J_sld hs9 dL_law_324 hin1 ?_
  refine Jw_callV1 (q9 := (RX7, TX7, 34)) moX7_turnBack jw_ml_L_39 jw_im_X7_turnBack jw_se_X7_turnBack hm rfl rfl dL_law_325 (w_X7_turnBack_ok 999 _ am (xs (i + 1).toNatClampNeg) k gr mn sp rw px py pz GA MN SP RW PX PY PZ (by decide) hW hm rk rgr rmn rsp q4 q6 q7 q8 rGA rMN rSP b4 b6 b7 b8 cW.1 cW.2 (by rw [← hPQ]; exact cP) hPr) (by decide) (Nat.zero_le _) (Nat.zero_le _) (Nat.le_of_ble_eq_true rfl) (fun r V3 h => ?_)
  obtain ⟨⟨hW, he5, y2, rfl, -, -, hy2⟩, ⟨M2, hM2, hMw, hMo⟩, ⟨P2, hP2, hPw, hPo⟩, hkp⟩ := h
  have hx := hx.mono he5.1
  have hm := hm.mono he5.1
  have hg := hg.keep he5 (jnot_of rfl) (jnot_of rfl)
  have hc := hc.keep he5 (jdis_of rfl)
  have hr : jRL _ ax am := ⟨jrs.done hc1 hk hrows hsp ht1 hw9 he (jnot_of rfl) (jnot_of rfl) hL ht4 he5 (jdis_of rfl) (jnot_of rfl) (jnot_of rfl) ⟨rk.kp hkp (by decide), rgr.mono he5.1, rmn.mono he5.1, rsp.mono he5.1, he5.2 _ _ rGA (jnot_of rfl), hM2, hP2⟩ hMw hMo (fun j hj => by rw [hPw j hj]; exact (hcg j (by omega)).symm) hPo hfo hj2 hwv2, (hp.own he (jnot_of rfl) (jnot_of rfl) (jnot_of rfl)).ref he5 (jnot_of rfl) hkp (by decide) (jnot_of rfl), (hff.mono he.1).mono he5.1⟩
  refine J_pop dL_law_328 rfl ?_
  refine J_goto (tgt := 908) dL_law_329 (by decide) ?_
  exact J.less (kc' := 5 * N + 8 * G2) (ks' := 491 * N + 20013 * G2) (by omega) (by omega) (kk _ G2 hW hx hm hg hr hc hG2)
set_option maxRecDepth 100000 in
set_option maxHeartbeats 4000000 in
theorem lawc_6 {tS : jTS} {b L : Nat} {xs : Nat → Int32} (hs9 : tS.2 = some (b, L, xs)) (V : jH) (ax am : Nat) (i : Int32) (G N : Nat) {Q : Option Value → jH → Prop} (hW : WT V) (hx : jis V (.inr 4) ax) (hm : jis V (.inr 5) am) (hg : jphi V ax G) (hr : jRL V ax am) (hc : jTX V ax am) (hin1 : vp_in (i + 1) L) (hin2 : vp_in (i + 2) L) (hin3 : vp_in (i + 3) L) (kk : ∀ (V2 : jH) (G2 : Nat), WT V2 → jis V2 (.inr 4) ax → jis V2 (.inr 5) am → jphi V2 ax G2 → jRL V2 ax am → jTX V2 ax am → G2 ≤ G → J tS mL_law 1000 908 [some (.ref b), some (.ref ax), some (.ref am), some (.int i)] [] V2 (5 * N + 8 * G2) (491 * N + 20013 * G2) Q) : J tS mL_law 1000 332 [some (.ref b), some (.ref ax), some (.ref am), some (.int i)] [] V (5 * (N + 1) + 8 * G) (491 * (N + 1) + 20013 * G) Q := by
  refine J_aload_n dL_law_332 rfl ?_
  refine J_aload_n dL_law_333 rfl ?_
  refine J_iload_n dL_law_334 rfl ?_
  refine J_iconst (v := 1) dL_law_335 (by decide) ?_
  refine J_iadd dL_law_336 ?_
  refine J_sld hs9 dL_law_337 hin1 ?_
  refine J_aload_n dL_law_338 rfl ?_
  refine J_iload_n dL_law_339 rfl ?_
  refine J_iconst (v := 2) dL_law_340 (by decide) ?_
  refine J_iadd dL_law_341 ?_
  refine J_sld hs9 dL_law_342 hin2 ?_
  have K : ∀ (V2 : jH) (G2 : Nat) (y1 : Int32), WT V2 → jis V2 (.inr 4) ax → jis V2 (.inr 5) am → jphi V2 ax G2 → jRL V2 ax am → jTX V2 ax am → G2 ≤ G → J tS mL_law 1000 346 [some (.ref b), some (.ref ax), some (.ref am), some (.int i)] [.int y1] V2 (5 * N + 8 * G2) (491 * N + 20013 * G2) Q := by
    intro V2 G2 y1 hW hx hm hg hr hc hG2
    refine J_pop dL_law_346 rfl ?_
    refine J_aload_n dL_law_347 rfl ?_
    refine J_aload_n dL_law_348 rfl ?_
    refine J_iload_n dL_law_349 rfl ?_
    refine J_iconst (v := 1) dL_law_350 (by decide) ?_
    refine J_iadd dL_law_351 ?_
    refine J_sld hs9 dL_law_352 hin1 ?_
    refine J_aload_n dL_law_353 rfl ?_
    refine J_iload_n dL_law_354 rfl ?_
    refine J_iconst (v := 2) dL_law_355 (by decide) ?_
    refine J_iadd dL_law_356 ?_
    refine J_sld hs9 dL_law_357 hin2 ?_
    refine Jw_callV2 (q9 := (RX7, TX7, 34)) moX7_stepAt jw_ml_L_43 jw_im_X7_stepAt jw_se_X7_stepAt hm rfl rfl dL_law_358 (w_X7_stepAt 999 _ am (xs (i + 1).toNatClampNeg) (xs (i + 2).toNatClampNeg) (by decide) hW hm ) (by decide) (Nat.zero_le _) (Nat.zero_le _) (Nat.le_of_ble_eq_true rfl) (fun r V3 h => ?_)
    obtain ⟨⟨y2, rfl, hy2⟩, hE⟩ := h
    subst hE
    refine J_pop dL_law_361 rfl ?_
    refine J_goto (tgt := 908) dL_law_362 (by decide) ?_
    exact J.less (kc' := 5 * N + 8 * G2) (ks' := 491 * N + 20013 * G2) (by omega) (by omega) (kk _ G2 hW hx hm hg hr hc hG2)
  refine Jw_callV2 (q9 := (RX6, TX6, 7)) moX6_stepAt jw_ml_L_40 jw_im_X6_stepAt jw_se_X6_stepAt hx rfl rfl dL_law_343 (w_X6_stepAt 999 _ ax (xs (i + 1).toNatClampNeg) (xs (i + 2).toNatClampNeg) (by decide) hW hx ) (by decide) (Nat.zero_le _) (Nat.zero_le _) (Nat.le_of_ble_eq_true rfl) (fun r V3 h => ?_)
  obtain ⟨⟨y1, rfl, hy1⟩, hE⟩ := h
  subst hE
  exact J.less (kc' := 5 * N + 8 * (G)) (ks' := 491 * N + 20013 * (G)) (by omega) (by omega) (K _ (G) _ hW hx hm hg hr hc (Nat.le_refl _))
