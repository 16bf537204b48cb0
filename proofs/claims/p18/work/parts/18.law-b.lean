set_option maxRecDepth 100000 in
set_option maxHeartbeats 4000000 in
theorem lawc_7 {tS : jTS} {b L : Nat} {xs : Nat → Int32} (hs9 : tS.2 = some (b, L, xs)) (V : jH) (ax am : Nat) (i : Int32) (G N : Nat) {Q : Option Value → jH → Prop} (hW : WT V) (hx : jis V (.inr 4) ax) (hm : jis V (.inr 5) am) (hg : jphi V ax G) (hr : jRL V ax am) (hc : jTX V ax am) (hin1 : vp_in (i + 1) L) (hin2 : vp_in (i + 2) L) (hin3 : vp_in (i + 3) L) (kk : ∀ (V2 : jH) (G2 : Nat), WT V2 → jis V2 (.inr 4) ax → jis V2 (.inr 5) am → jphi V2 ax G2 → jRL V2 ax am → jTX V2 ax am → G2 ≤ G → J tS mL_law 1000 908 [some (.ref b), some (.ref ax), some (.ref am), some (.int i)] [] V2 (5 * N + 8 * G2) (491 * N + 20013 * G2) Q) : J tS mL_law 1000 365 [some (.ref b), some (.ref ax), some (.ref am), some (.int i)] [] V (5 * (N + 1) + 8 * G) (491 * (N + 1) + 20013 * G) Q := by
  refine J_aload_n dL_law_365 rfl ?_
  refine J_aload_n dL_law_366 rfl ?_
  refine J_iload_n dL_law_367 rfl ?_
  refine J_iconst (v := 1) dL_law_368 (by decide) ?_
  refine J_iadd dL_law_369 ?_
  refine J_sld hs9 dL_law_370 hin1 ?_
  refine J_aload_n dL_law_371 rfl ?_
  refine J_iload_n dL_law_372 rfl ?_
  refine J_iconst (v := 2) dL_law_373 (by decide) ?_
  refine J_iadd dL_law_374 ?_
  refine J_sld hs9 dL_law_375 hin2 ?_
  refine J_aload_n dL_law_376 rfl ?_
  refine J_iload_n dL_law_377 rfl ?_
  refine J_iconst (v := 3) dL_law_378 (by decide) ?_
  refine J_iadd dL_law_379 ?_
  refine J_sld hs9 dL_law_380 hin3 ?_
  obtain ⟨hs, hp, hff⟩ := id hr
  obtain ⟨k, md, gr, mn, sp, f, GA, MN, SP, A, T, hc1, hr1, ht1, hk, hrows, hsp⟩ := id hs
  obtain ⟨ck, cmd, cA, ctr⟩ := id hc1
  obtain ⟨rk, rgr, rmn, rsp, rGA, rMN, rSP⟩ := id hr1
  obtain ⟨rw, px, py, pz, RW, PX, PY, PZ, q4, q6, q7, q8, b4, b6, b7, b8⟩ := WT_ref hW hm
  by_cases cW : 0 ≤ (xs (i + 1).toNatClampNeg).toInt ∧ (xs (i + 1).toNatClampNeg).toInt < k.toInt
  rotate_left
  · skip
    refine Jw_callV3 (q9 := (RX6, TX6, 7)) moX6_place jw_ml_L_44 jw_im_X6_place jw_se_X6_place hx rfl rfl dL_law_381 (w_X6_place_out 999 _ ax (xs (i + 1).toNatClampNeg) (xs (i + 2).toNatClampNeg) (xs (i + 3).toNatClampNeg) k md (by decide) hW hx ck cmd cW) (by decide) (Nat.zero_le _) (Nat.zero_le _) (Nat.le_of_ble_eq_true rfl) (fun r V4 h => ?_)
    obtain ⟨⟨y1, rfl, -, -, hy1⟩, hE⟩ := h
    have hE := hE.symm
    subst hE
    refine J.less (kc' := 5 * N + 8 * G) (ks' := 491 * N + 20013 * G) (by omega) (by omega) ?_
    obtain ⟨G2, hGe⟩ : ∃ G2 : Nat, G2 = G := ⟨_, rfl⟩
    have hG2 : G2 ≤ G := Nat.le_of_eq hGe
    rw [← hGe] at hg ⊢
    refine J_pop dL_law_384 rfl ?_
    refine J_aload_n dL_law_385 rfl ?_
    refine J_aload_n dL_law_386 rfl ?_
    refine J_iload_n dL_law_387 rfl ?_
    refine J_iconst (v := 1) dL_law_388 (by decide) ?_
    refine J_iadd dL_law_389 ?_
    refine J_sld hs9 dL_law_390 hin1 ?_
    refine J_aload_n dL_law_391 rfl ?_
    refine J_iload_n dL_law_392 rfl ?_
    refine J_iconst (v := 2) dL_law_393 (by decide) ?_
    refine J_iadd dL_law_394 ?_
    refine J_sld hs9 dL_law_395 hin2 ?_
    refine J_aload_n dL_law_396 rfl ?_
    refine J_iload_n dL_law_397 rfl ?_
    refine J_iconst (v := 3) dL_law_398 (by decide) ?_
    refine J_iadd dL_law_399 ?_
    refine J_sld hs9 dL_law_400 hin3 ?_
    refine Jw_callV3 (q9 := (RX7, TX7, 34)) moX7_place jw_ml_L_47 jw_im_X7_place jw_se_X7_place hm rfl rfl dL_law_401 (w_X7_place_bad 999 _ am (xs (i + 1).toNatClampNeg) (xs (i + 2).toNatClampNeg) (xs (i + 3).toNatClampNeg) k gr mn sp rw px py pz GA MN SP RW PX PY PZ (by decide) hW hm rk rgr rmn rsp q4 q6 q7 q8 rGA rMN rSP b4 b6 b7 b8 (fun q => cW ⟨q.1, q.2.1⟩)) (by decide) (Nat.zero_le _) (Nat.zero_le _) (Nat.le_of_ble_eq_true rfl) (fun r V3 h => ?_)
    obtain ⟨⟨y2, rfl, -, -, hy2⟩, hE⟩ := h
    have hE := hE.symm
    subst hE
    refine J_pop dL_law_404 rfl ?_
    refine J_goto (tgt := 908) dL_law_405 (by decide) ?_
    exact J.less (kc' := 5 * N + 8 * G2) (ks' := 491 * N + 20013 * G2) (by omega) (by omega) (kk _ G2 hW hx hm hg hr hc hG2)
  have hw9 : (((xs (i + 1).toNatClampNeg).toInt.toNat : Nat) : Int) < k.toInt := by omega
  obtain ⟨S, X, Y, Z, hfo, hrow, hwv⟩ := hrows (xs (i + 1).toNatClampNeg).toInt.toNat hw9
  obtain ⟨⟨M, mM, eM⟩, ⟨g, mg, eg⟩, ⟨n, nn, en⟩, s1, s2, s3, s4, a1, a2, a3, a4⟩ := id hrow
  obtain rfl := jI_inj.mp eg
  obtain rfl := jI_inj.mp en
  obtain ⟨hg9, hn9, hst, hjv, hav⟩ := id hwv
  have hTS : ∀ q : Nat, q < (MN (xs (i + 1).toNatClampNeg).toInt.toNat).toInt.toNat → (S q).toInt = (SP (60 * (xs (i + 1).toNatClampNeg).toInt.toNat + q)).toInt := fun q hq => (hst q (by omega)).1
  have hSr : ∀ j : Nat, (j : Int) < (MN (xs (i + 1).toNatClampNeg).toInt.toNat).toInt → 0 ≤ (S j).toInt ∧ (S j).toInt < jdir (GA (xs (i + 1).toNatClampNeg).toInt.toNat).toInt := fun j hj => by rw [(hst j hj).1]; exact (hst j hj).2
  have hPr : ∀ j : Nat, (j : Int) < (MN (xs (i + 1).toNatClampNeg).toInt.toNat).toInt → 0 ≤ (SP (60 * (xs (i + 1).toNatClampNeg).toInt.toNat + j)).toInt ∧ (SP (60 * (xs (i + 1).toNatClampNeg).toInt.toNat + j)).toInt < jdir (GA (xs (i + 1).toNatClampNeg).toInt.toNat).toInt := fun j hj => (hst j hj).2
  have hjvS := hjv.congr (U := fun q => (S q).toInt) (fun q hq => (hTS q hq).symm)
  have havS := hav.congr (U := fun q => (S q).toInt) (fun q hq => (hTS q hq).symm)
  by_cases cD : 0 ≤ (xs (i + 2).toNatClampNeg).toInt ∧ (xs (i + 2).toNatClampNeg).toInt ≤ (MN ((xs (i + 1).toNatClampNeg).toInt.toNat)).toInt ∧ 0 ≤ (xs (i + 3).toNatClampNeg).toInt ∧ (xs (i + 3).toNatClampNeg).toInt ≤ 2
  rotate_left
  · skip
    refine Jw_callV3 (q9 := (RX6, TX6, 7)) moX6_place jw_ml_L_44 jw_im_X6_place jw_se_X6_place hx rfl rfl dL_law_381 (w_X6_place_bad 999 _ ax (xs (i + 1).toNatClampNeg) (xs (i + 2).toNatClampNeg) (xs (i + 3).toNatClampNeg) k md f (A ((xs (i + 1).toNatClampNeg).toInt.toNat)).1 M (GA ((xs (i + 1).toNatClampNeg).toInt.toNat)) (MN ((xs (i + 1).toNatClampNeg).toInt.toNat)) (A ((xs (i + 1).toNatClampNeg).toInt.toNat)).2.1 (A ((xs (i + 1).toNatClampNeg).toInt.toNat)).2.2.1 (A ((xs (i + 1).toNatClampNeg).toInt.toNat)).2.2.2.1 (A ((xs (i + 1).toNatClampNeg).toInt.toNat)).2.2.2.2 S X Y Z (by decide) hW hx ck cmd cA mM mg nn s1 s2 s3 s4 a1 a2 a3 a4 eM hn9.2 hfo cW.1 cW.2 cD) (by decide) (Nat.zero_le _) (Nat.zero_le _) (Nat.le_of_ble_eq_true rfl) (fun r V4 h => ?_)
    obtain ⟨⟨y1, rfl, -, -, hy1⟩, hE⟩ := h
    have hE := hE.symm
    subst hE
    refine J.less (kc' := 5 * N + 8 * G) (ks' := 491 * N + 20013 * G) (by omega) (by omega) ?_
    obtain ⟨G2, hGe⟩ : ∃ G2 : Nat, G2 = G := ⟨_, rfl⟩
    have hG2 : G2 ≤ G := Nat.le_of_eq hGe
    rw [← hGe] at hg ⊢
    refine J_pop dL_law_384 rfl ?_
    refine J_aload_n dL_law_385 rfl ?_
    refine J_aload_n dL_law_386 rfl ?_
    refine J_iload_n dL_law_387 rfl ?_
    refine J_iconst (v := 1) dL_law_388 (by decide) ?_
    refine J_iadd dL_law_389 ?_
    refine J_sld hs9 dL_law_390 hin1 ?_
    refine J_aload_n dL_law_391 rfl ?_
    refine J_iload_n dL_law_392 rfl ?_
    refine J_iconst (v := 2) dL_law_393 (by decide) ?_
    refine J_iadd dL_law_394 ?_
    refine J_sld hs9 dL_law_395 hin2 ?_
    refine J_aload_n dL_law_396 rfl ?_
    refine J_iload_n dL_law_397 rfl ?_
    refine J_iconst (v := 3) dL_law_398 (by decide) ?_
    refine J_iadd dL_law_399 ?_
    refine J_sld hs9 dL_law_400 hin3 ?_
    refine Jw_callV3 (q9 := (RX7, TX7, 34)) moX7_place jw_ml_L_47 jw_im_X7_place jw_se_X7_place hm rfl rfl dL_law_401 (w_X7_place_bad 999 _ am (xs (i + 1).toNatClampNeg) (xs (i + 2).toNatClampNeg) (xs (i + 3).toNatClampNeg) k gr mn sp rw px py pz GA MN SP RW PX PY PZ (by decide) hW hm rk rgr rmn rsp q4 q6 q7 q8 rGA rMN rSP b4 b6 b7 b8 (fun q => cD q.2.2)) (by decide) (Nat.zero_le _) (Nat.zero_le _) (Nat.le_of_ble_eq_true rfl) (fun r V3 h => ?_)
    obtain ⟨⟨y2, rfl, -, -, hy2⟩, hE⟩ := h
    have hE := hE.symm
    subst hE
    refine J_pop dL_law_404 rfl ?_
    refine J_goto (tgt := 908) dL_law_405 (by decide) ?_
    exact J.less (kc' := 5 * N + 8 * G2) (ks' := 491 * N + 20013 * G2) (by omega) (by omega) (kk _ G2 hW hx hm hg hr hc hG2)
  have hjx := hjv (xs (i + 2).toNatClampNeg).toInt.toNat (by omega)
  refine Jw_callV3 (q9 := (RX6, TX6, 7)) moX6_place jw_ml_L_44 jw_im_X6_place jw_se_X6_place hx rfl rfl dL_law_381 (w_X6_place_ok 999 _ ax (xs (i + 1).toNatClampNeg) (xs (i + 2).toNatClampNeg) (xs (i + 3).toNatClampNeg) k md f (A ((xs (i + 1).toNatClampNeg).toInt.toNat)).1 M (GA ((xs (i + 1).toNatClampNeg).toInt.toNat)) (MN ((xs (i + 1).toNatClampNeg).toInt.toNat)) (A ((xs (i + 1).toNatClampNeg).toInt.toNat)).2.1 (A ((xs (i + 1).toNatClampNeg).toInt.toNat)).2.2.1 (A ((xs (i + 1).toNatClampNeg).toInt.toNat)).2.2.2.1 (A ((xs (i + 1).toNatClampNeg).toInt.toNat)).2.2.2.2 S X Y Z (by decide) hW hx ck cmd cA mM mg nn s1 s2 s3 s4 a1 a2 a3 a4 eM hn9.2 hfo cW.1 cW.2 cD.1 cD.2.1 cD.2.2.1 cD.2.2.2) (by decide) (Nat.zero_le _) (Nat.zero_le _) (Nat.le_of_ble_eq_true rfl) (fun r V4 h => ?_)
  obtain ⟨⟨y1, rfl, -, -, hy1⟩, hE⟩ := h
  have hE := hE.symm
  subst hE
  refine J.less (kc' := 5 * N + 8 * G) (ks' := 491 * N + 20013 * G) (by omega) (by omega) ?_
  obtain ⟨G2, hGe⟩ : ∃ G2 : Nat, G2 = G := ⟨_, rfl⟩
  have hG2 : G2 ≤ G := Nat.le_of_eq hGe
  rw [← hGe] at hg ⊢
  refine J_pop dL_law_384 rfl ?_
  refine J_aload_n dL_law_385 rfl ?_
  refine J_aload_n dL_law_386 rfl ?_
  refine J_iload_n dL_law_387 rfl ?_
  refine J_iconst (v := 1) dL_law_388 (by decide) ?_
  refine J_iadd dL_law_389 ?_
  refine J_sld hs9 dL_law_390 hin1 ?_
  refine J_aload_n dL_law_391 rfl ?_
  refine J_iload_n dL_law_392 rfl ?_
  refine J_iconst (v := 2) dL_law_393 (by decide) ?_
  refine J_iadd dL_law_394 ?_
  refine J_sld hs9 dL_law_395 hin2 ?_
  refine J_aload_n dL_law_396 rfl ?_
  refine J_iload_n dL_law_397 rfl ?_
  refine J_iconst (v := 3) dL_law_398 (by decide) ?_
  refine J_iadd dL_law_399 ?_
  refine J_sld hs9 dL_law_400 hin3 ?_
  refine Jw_callV3 (q9 := (RX7, TX7, 34)) moX7_place jw_ml_L_47 jw_im_X7_place jw_se_X7_place hm rfl rfl dL_law_401 (w_X7_place_ok 999 _ am (xs (i + 1).toNatClampNeg) (xs (i + 2).toNatClampNeg) (xs (i + 3).toNatClampNeg) k gr mn sp rw px py pz GA MN SP RW PX PY PZ (by decide) hW hm rk rgr rmn rsp q4 q6 q7 q8 rGA rMN rSP b4 b6 b7 b8 cW.1 cW.2 cD.1 cD.2.1 cD.2.2.1 cD.2.2.2) (by decide) (Nat.zero_le _) (Nat.zero_le _) (Nat.le_of_ble_eq_true rfl) (fun r V3 h => ?_)
  obtain ⟨⟨hW, he5, y2, rfl, -, -, hy2⟩, hkp⟩ := h
  have hx := hx.mono he5.1
  have hm := hm.mono he5.1
  have hg := hg.keep he5 (jnot_of rfl) (jnot_of rfl)
  have hc := hc.keep he5 (jdis_of rfl)
  have hr := hr.ref he5 hkp (by decide) (jdis_of rfl)
  refine J_pop dL_law_404 rfl ?_
  refine J_goto (tgt := 908) dL_law_405 (by decide) ?_
  exact J.less (kc' := 5 * N + 8 * G2) (ks' := 491 * N + 20013 * G2) (by omega) (by omega) (kk _ G2 hW hx hm hg hr hc hG2)
set_option maxRecDepth 100000 in
set_option maxHeartbeats 4000000 in
theorem lawc_8 {tS : jTS} {b L : Nat} {xs : Nat → Int32} (hs9 : tS.2 = some (b, L, xs)) (V : jH) (ax am : Nat) (i : Int32) (G N : Nat) {Q : Option Value → jH → Prop} (hW : WT V) (hx : jis V (.inr 4) ax) (hm : jis V (.inr 5) am) (hg : jphi V ax G) (hr : jRL V ax am) (hc : jTX V ax am) (hin1 : vp_in (i + 1) L) (hin2 : vp_in (i + 2) L) (hin3 : vp_in (i + 3) L) (kk : ∀ (V2 : jH) (G2 : Nat), WT V2 → jis V2 (.inr 4) ax → jis V2 (.inr 5) am → jphi V2 ax G2 → jRL V2 ax am → jTX V2 ax am → G2 ≤ G → J tS mL_law 1000 908 [some (.ref b), some (.ref ax), some (.ref am), some (.int i)] [] V2 (5 * N + 8 * G2) (491 * N + 20013 * G2) Q) : J tS mL_law 1000 408 [some (.ref b), some (.ref ax), some (.ref am), some (.int i)] [] V (5 * (N + 1) + 8 * G) (491 * (N + 1) + 20013 * G) Q := by
  refine J_aload_n dL_law_408 rfl ?_
  refine J_aload_n dL_law_409 rfl ?_
  refine J_iload_n dL_law_410 rfl ?_
  refine J_iconst (v := 1) dL_law_411 (by decide) ?_
  refine J_iadd dL_law_412 ?_
  refine J_sld hs9 dL_law_413 hin1 ?_
  refine J_aload_n dL_law_414 rfl ?_
  refine J_iload_n dL_law_415 rfl ?_
  refine J_iconst (v := 2) dL_law_416 (by decide) ?_
  refine J_iadd dL_law_417 ?_
  refine J_sld hs9 dL_law_418 hin2 ?_
  obtain ⟨hs, hp, hff⟩ := id hr
  obtain ⟨k, md, gr, mn, sp, f, GA, MN, SP, A, T, hc1, hr1, ht1, hk, hrows, hsp⟩ := id hs
  obtain ⟨ck, cmd, cA, ctr⟩ := id hc1
  obtain ⟨rk, rgr, rmn, rsp, rGA, rMN, rSP⟩ := id hr1
  obtain ⟨rw, px, py, pz, RW, PX, PY, PZ, q4, q6, q7, q8, b4, b6, b7, b8⟩ := WT_ref hW hm
  by_cases cW : 0 ≤ (xs (i + 1).toNatClampNeg).toInt ∧ (xs (i + 1).toNatClampNeg).toInt < k.toInt
  rotate_left
  · skip
    refine Jw_callV2 (q9 := (RX6, TX6, 7)) moX6_about jw_ml_L_48 jw_im_X6_about jw_se_X6_about hx rfl rfl dL_law_419 (w_X6_about_out 999 _ ax (xs (i + 1).toNatClampNeg) (xs (i + 2).toNatClampNeg) k md (by decide) hW hx ck cmd cW) (by decide) (Nat.zero_le _) (Nat.zero_le _) (Nat.le_of_ble_eq_true rfl) (fun r V4 h => ?_)
    obtain ⟨⟨y1, rfl, -, -, hy1⟩, hE⟩ := h
    have hE := hE.symm
    subst hE
    refine J.less (kc' := 5 * N + 8 * G) (ks' := 491 * N + 20013 * G) (by omega) (by omega) ?_
    obtain ⟨G2, hGe⟩ : ∃ G2 : Nat, G2 = G := ⟨_, rfl⟩
    have hG2 : G2 ≤ G := Nat.le_of_eq hGe
    rw [← hGe] at hg ⊢
    refine J_pop dL_law_422 rfl ?_
    refine J_aload_n dL_law_423 rfl ?_
    refine J_aload_n dL_law_424 rfl ?_
    refine J_iload_n dL_law_425 rfl ?_
    refine J_iconst (v := 1) dL_law_426 (by decide) ?_
    refine J_iadd dL_law_427 ?_
    refine J_sld hs9 dL_law_428 hin1 ?_
    refine J_aload_n dL_law_429 rfl ?_
    refine J_iload_n dL_law_430 rfl ?_
    refine J_iconst (v := 2) dL_law_431 (by decide) ?_
    refine J_iadd dL_law_432 ?_
    refine J_sld hs9 dL_law_433 hin2 ?_
    refine Jw_callV2 (q9 := (RX7, TX7, 34)) moX7_about jw_ml_L_51 jw_im_X7_about jw_se_X7_about hm rfl rfl dL_law_434 (w_X7_about_bad 999 _ am (xs (i + 1).toNatClampNeg) (xs (i + 2).toNatClampNeg) k gr mn sp rw px py pz GA MN SP RW PX PY PZ (by decide) hW hm rk rgr rmn rsp q4 q6 q7 q8 rGA rMN rSP b4 b6 b7 b8 (fun q => cW ⟨q.1, q.2.1⟩)) (by decide) (Nat.zero_le _) (Nat.zero_le _) (Nat.le_of_ble_eq_true rfl) (fun r V3 h => ?_)
    obtain ⟨⟨y2, rfl, -, -, hy2⟩, hE⟩ := h
    have hE := hE.symm
    subst hE
    refine J_pop dL_law_437 rfl ?_
    refine J_goto (tgt := 908) dL_law_438 (by decide) ?_
    exact J.less (kc' := 5 * N + 8 * G2) (ks' := 491 * N + 20013 * G2) (by omega) (by omega) (kk _ G2 hW hx hm hg hr hc hG2)
  have hw9 : (((xs (i + 1).toNatClampNeg).toInt.toNat : Nat) : Int) < k.toInt := by omega
  obtain ⟨S, X, Y, Z, hfo, hrow, hwv⟩ := hrows (xs (i + 1).toNatClampNeg).toInt.toNat hw9
  obtain ⟨⟨M, mM, eM⟩, ⟨g, mg, eg⟩, ⟨n, nn, en⟩, s1, s2, s3, s4, a1, a2, a3, a4⟩ := id hrow
  obtain rfl := jI_inj.mp eg
  obtain rfl := jI_inj.mp en
  obtain ⟨hg9, hn9, hst, hjv, hav⟩ := id hwv
  have hTS : ∀ q : Nat, q < (MN (xs (i + 1).toNatClampNeg).toInt.toNat).toInt.toNat → (S q).toInt = (SP (60 * (xs (i + 1).toNatClampNeg).toInt.toNat + q)).toInt := fun q hq => (hst q (by omega)).1
  have hSr : ∀ j : Nat, (j : Int) < (MN (xs (i + 1).toNatClampNeg).toInt.toNat).toInt → 0 ≤ (S j).toInt ∧ (S j).toInt < jdir (GA (xs (i + 1).toNatClampNeg).toInt.toNat).toInt := fun j hj => by rw [(hst j hj).1]; exact (hst j hj).2
  have hPr : ∀ j : Nat, (j : Int) < (MN (xs (i + 1).toNatClampNeg).toInt.toNat).toInt → 0 ≤ (SP (60 * (xs (i + 1).toNatClampNeg).toInt.toNat + j)).toInt ∧ (SP (60 * (xs (i + 1).toNatClampNeg).toInt.toNat + j)).toInt < jdir (GA (xs (i + 1).toNatClampNeg).toInt.toNat).toInt := fun j hj => (hst j hj).2
  have hjvS := hjv.congr (U := fun q => (S q).toInt) (fun q hq => (hTS q hq).symm)
  have havS := hav.congr (U := fun q => (S q).toInt) (fun q hq => (hTS q hq).symm)
  by_cases cD : 0 ≤ (xs (i + 2).toNatClampNeg).toInt ∧ (xs (i + 2).toNatClampNeg).toInt ≤ 7
  rotate_left
  · skip
    refine Jw_callV2 (q9 := (RX6, TX6, 7)) moX6_about jw_ml_L_48 jw_im_X6_about jw_se_X6_about hx rfl rfl dL_law_419 (w_X6_about_bad 999 _ ax (xs (i + 1).toNatClampNeg) (xs (i + 2).toNatClampNeg) k md f (A ((xs (i + 1).toNatClampNeg).toInt.toNat)).1 M (GA ((xs (i + 1).toNatClampNeg).toInt.toNat)) (MN ((xs (i + 1).toNatClampNeg).toInt.toNat)) (A ((xs (i + 1).toNatClampNeg).toInt.toNat)).2.1 (A ((xs (i + 1).toNatClampNeg).toInt.toNat)).2.2.1 (A ((xs (i + 1).toNatClampNeg).toInt.toNat)).2.2.2.1 (A ((xs (i + 1).toNatClampNeg).toInt.toNat)).2.2.2.2 S X Y Z (by decide) hW hx ck cmd cA mM mg nn s1 s2 s3 s4 a1 a2 a3 a4 eM hn9.2 hfo cW.1 cW.2 cD) (by decide) (Nat.zero_le _) (Nat.zero_le _) (Nat.le_of_ble_eq_true rfl) (fun r V4 h => ?_)
    obtain ⟨⟨y1, rfl, -, -, hy1⟩, hE⟩ := h
    have hE := hE.symm
    subst hE
    refine J.less (kc' := 5 * N + 8 * G) (ks' := 491 * N + 20013 * G) (by omega) (by omega) ?_
    obtain ⟨G2, hGe⟩ : ∃ G2 : Nat, G2 = G := ⟨_, rfl⟩
    have hG2 : G2 ≤ G := Nat.le_of_eq hGe
    rw [← hGe] at hg ⊢
    refine J_pop dL_law_422 rfl ?_
    refine J_aload_n dL_law_423 rfl ?_
    refine J_aload_n dL_law_424 rfl ?_
    refine J_iload_n dL_law_425 rfl ?_
    refine J_iconst (v := 1) dL_law_426 (by decide) ?_
    refine J_iadd dL_law_427 ?_
    refine J_sld hs9 dL_law_428 hin1 ?_
    refine J_aload_n dL_law_429 rfl ?_
    refine J_iload_n dL_law_430 rfl ?_
    refine J_iconst (v := 2) dL_law_431 (by decide) ?_
    refine J_iadd dL_law_432 ?_
    refine J_sld hs9 dL_law_433 hin2 ?_
    refine Jw_callV2 (q9 := (RX7, TX7, 34)) moX7_about jw_ml_L_51 jw_im_X7_about jw_se_X7_about hm rfl rfl dL_law_434 (w_X7_about_bad 999 _ am (xs (i + 1).toNatClampNeg) (xs (i + 2).toNatClampNeg) k gr mn sp rw px py pz GA MN SP RW PX PY PZ (by decide) hW hm rk rgr rmn rsp q4 q6 q7 q8 rGA rMN rSP b4 b6 b7 b8 (fun q => cD q.2.2)) (by decide) (Nat.zero_le _) (Nat.zero_le _) (Nat.le_of_ble_eq_true rfl) (fun r V3 h => ?_)
    obtain ⟨⟨y2, rfl, -, -, hy2⟩, hE⟩ := h
    have hE := hE.symm
    subst hE
    refine J_pop dL_law_437 rfl ?_
    refine J_goto (tgt := 908) dL_law_438 (by decide) ?_
    exact J.less (kc' := 5 * N + 8 * G2) (ks' := 491 * N + 20013 * G2) (by omega) (by omega) (kk _ G2 hW hx hm hg hr hc hG2)
  have hbq := hjv.b (MN ((xs (i + 1).toNatClampNeg).toInt.toNat)).toInt.toNat (Nat.le_refl _)
  refine Jw_callV2 (q9 := (RX6, TX6, 7)) moX6_about jw_ml_L_48 jw_im_X6_about jw_se_X6_about hx rfl rfl dL_law_419 (w_X6_about_ok 999 _ ax (xs (i + 1).toNatClampNeg) (xs (i + 2).toNatClampNeg) k md f (A ((xs (i + 1).toNatClampNeg).toInt.toNat)).1 M (GA ((xs (i + 1).toNatClampNeg).toInt.toNat)) (MN ((xs (i + 1).toNatClampNeg).toInt.toNat)) (A ((xs (i + 1).toNatClampNeg).toInt.toNat)).2.1 (A ((xs (i + 1).toNatClampNeg).toInt.toNat)).2.2.1 (A ((xs (i + 1).toNatClampNeg).toInt.toNat)).2.2.2.1 (A ((xs (i + 1).toNatClampNeg).toInt.toNat)).2.2.2.2 S X Y Z (by decide) hW hx ck cmd cA mM mg nn s1 s2 s3 s4 a1 a2 a3 a4 eM hn9.2 hfo cW.1 cW.2 hg9.1 hg9.2 (by omega) (by omega) (by omega) (by omega) (by omega) (by omega) cD.1 cD.2) (by decide) (Nat.zero_le _) (Nat.zero_le _) (Nat.le_of_ble_eq_true rfl) (fun r V4 h => ?_)
  obtain ⟨⟨y1, rfl, -, -, hy1⟩, hE⟩ := h
  have hE := hE.symm
  subst hE
  refine J.less (kc' := 5 * N + 8 * G) (ks' := 491 * N + 20013 * G) (by omega) (by omega) ?_
  obtain ⟨G2, hGe⟩ : ∃ G2 : Nat, G2 = G := ⟨_, rfl⟩
  have hG2 : G2 ≤ G := Nat.le_of_eq hGe
  rw [← hGe] at hg ⊢
  refine J_pop dL_law_422 rfl ?_
  refine J_aload_n dL_law_423 rfl ?_
  refine J_aload_n dL_law_424 rfl ?_
  refine J_iload_n dL_law_425 rfl ?_
  refine J_iconst (v := 1) dL_law_426 (by decide) ?_
  refine J_iadd dL_law_427 ?_
  refine J_sld hs9 dL_law_428 hin1 ?_
  refine J_aload_n dL_law_429 rfl ?_
  refine J_iload_n dL_law_430 rfl ?_
  refine J_iconst (v := 2) dL_law_431 (by decide) ?_
  refine J_iadd dL_law_432 ?_
  refine J_sld hs9 dL_law_433 hin2 ?_
  refine Jw_callV2 (q9 := (RX7, TX7, 34)) moX7_about jw_ml_L_51 jw_im_X7_about jw_se_X7_about hm rfl rfl dL_law_434 (w_X7_about_ok 999 _ am (xs (i + 1).toNatClampNeg) (xs (i + 2).toNatClampNeg) k gr mn sp rw px py pz GA MN SP RW PX PY PZ (by decide) hW hm rk rgr rmn rsp q4 q6 q7 q8 rGA rMN rSP b4 b6 b7 b8 cW.1 cW.2 cD.1 cD.2) (by decide) (Nat.zero_le _) (Nat.zero_le _) (Nat.le_of_ble_eq_true rfl) (fun r V3 h => ?_)
  obtain ⟨⟨hW, he5, y2, rfl, -, -, ⟨S8, X8, Y8, Z8, hv8, hs8, hy2⟩⟩, hkp⟩ := h
  have hx := hx.mono he5.1
  have hm := hm.mono he5.1
  have hg := hg.keep he5 (jnot_of rfl) (jnot_of rfl)
  have hc := hc.keep he5 (jdis_of rfl)
  have hr := hr.ref he5 hkp (by decide) (jdis_of rfl)
  have hyA : y1.toInt = y2.toInt := hy1.trans ((jab8_congr (fun j hj => jI_inj.mp ((hst j (by omega)).1.trans (by rw [hs8 j hj]))) (hjv.same hv8 (fun _ _ => rfl)) _).trans hy2.symm)
  refine J_pop dL_law_437 rfl ?_
  refine J_goto (tgt := 908) dL_law_438 (by decide) ?_
  exact J.less (kc' := 5 * N + 8 * G2) (ks' := 491 * N + 20013 * G2) (by omega) (by omega) (kk _ G2 hW hx hm hg hr hc hG2)
set_option maxRecDepth 100000 in
set_option maxHeartbeats 4000000 in
theorem lawc_9 {tS : jTS} {b L : Nat} {xs : Nat → Int32} (hs9 : tS.2 = some (b, L, xs)) (V : jH) (ax am : Nat) (i : Int32) (G N : Nat) {Q : Option Value → jH → Prop} (hW : WT V) (hx : jis V (.inr 4) ax) (hm : jis V (.inr 5) am) (hg : jphi V ax G) (hr : jRL V ax am) (hc : jTX V ax am) (hin1 : vp_in (i + 1) L) (hin2 : vp_in (i + 2) L) (hin3 : vp_in (i + 3) L) (kk : ∀ (V2 : jH) (G2 : Nat), WT V2 → jis V2 (.inr 4) ax → jis V2 (.inr 5) am → jphi V2 ax G2 → jRL V2 ax am → jTX V2 ax am → G2 ≤ G → J tS mL_law 1000 908 [some (.ref b), some (.ref ax), some (.ref am), some (.int i)] [] V2 (5 * N + 8 * G2) (491 * N + 20013 * G2) Q) : J tS mL_law 1000 441 [some (.ref b), some (.ref ax), some (.ref am), some (.int i)] [] V (5 * (N + 1) + 8 * G) (491 * (N + 1) + 20013 * G) Q := by
  refine J_aload_n dL_law_441 rfl ?_
  refine J_aload_n dL_law_442 rfl ?_
  refine J_iload_n dL_law_443 rfl ?_
  refine J_iconst (v := 1) dL_law_444 (by decide) ?_
  refine J_iadd dL_law_445 ?_
  refine J_sld hs9 dL_law_446 hin1 ?_
  refine J_aload_n dL_law_447 rfl ?_
  refine J_iload_n dL_law_448 rfl ?_
  refine J_iconst (v := 2) dL_law_449 (by decide) ?_
  refine J_iadd dL_law_450 ?_
  refine J_sld hs9 dL_law_451 hin2 ?_
  have K : ∀ (V2 : jH) (G2 : Nat) (y1 : Int32), WT V2 → jis V2 (.inr 4) ax → jis V2 (.inr 5) am → jphi V2 ax G2 → jRL V2 ax am → jTX V2 ax am → G2 ≤ G → J tS mL_law 1000 455 [some (.ref b), some (.ref ax), some (.ref am), some (.int i)] [.int y1] V2 (5 * N + 8 * G2) (491 * N + 20013 * G2) Q := by
    intro V2 G2 y1 hW hx hm hg hr hc hG2
    refine J_pop dL_law_455 rfl ?_
    refine J_aload_n dL_law_456 rfl ?_
    refine J_aload_n dL_law_457 rfl ?_
    refine J_iload_n dL_law_458 rfl ?_
    refine J_iconst (v := 1) dL_law_459 (by decide) ?_
    refine J_iadd dL_law_460 ?_
    refine J_sld hs9 dL_law_461 hin1 ?_
    refine J_aload_n dL_law_462 rfl ?_
    refine J_iload_n dL_law_463 rfl ?_
    refine J_iconst (v := 2) dL_law_464 (by decide) ?_
    refine J_iadd dL_law_465 ?_
    refine J_sld hs9 dL_law_466 hin2 ?_
    refine Jw_callV2 (q9 := (RX7, TX7, 34)) moX7_form jw_ml_L_55 jw_im_X7_form jw_se_X7_form hm rfl rfl dL_law_467 (w_X7_form 999 _ am (xs (i + 1).toNatClampNeg) (xs (i + 2).toNatClampNeg) (by decide) hW hm ) (by decide) (Nat.zero_le _) (Nat.zero_le _) (Nat.le_of_ble_eq_true rfl) (fun r V3 h => ?_)
    obtain ⟨⟨hW, he, y2, rfl, hy2⟩, hkp⟩ := h
    have hx := hx.mono he.1
    have hm := hm.mono he.1
    have hg := hg.keep he (jnot_of rfl) (jnot_of rfl)
    have hc := hc.keep he (jdis_of rfl)
    have hr := hr.ref he hkp (by decide) (jdis_of rfl)
    refine J_pop dL_law_470 rfl ?_
    refine J_goto (tgt := 908) dL_law_471 (by decide) ?_
    exact J.less (kc' := 5 * N + 8 * G2) (ks' := 491 * N + 20013 * G2) (by omega) (by omega) (kk _ G2 hW hx hm hg hr hc hG2)
  refine Jw_callV2 (q9 := (RX6, TX6, 7)) moX6_form jw_ml_L_52 jw_im_X6_form jw_se_X6_form hx rfl rfl dL_law_452 (w_X6_form 999 _ ax (xs (i + 1).toNatClampNeg) (xs (i + 2).toNatClampNeg) (by decide) hW hx ) (by decide) (Nat.zero_le _) (Nat.zero_le _) (Nat.le_of_ble_eq_true rfl) (fun r V3 h => ?_)
  obtain ⟨hW2, he, y1, rfl, hy1⟩ := h
  exact J.less (kc' := 5 * N + 8 * (G)) (ks' := 491 * N + 20013 * (G)) (by omega) (by omega) (K _ (G) _ hW2 (hx.mono he.1) (hm.mono he.1) (hg.keep he (jnot_of rfl) (jnot_of rfl)) (hr.own he (jdis_of rfl)) (hc.keep he (jdis_of rfl)) (Nat.le_refl _))
set_option maxRecDepth 100000 in
set_option maxHeartbeats 4000000 in
theorem lawc_10 {tS : jTS} {b L : Nat} {xs : Nat → Int32} (hs9 : tS.2 = some (b, L, xs)) (V : jH) (ax am : Nat) (i : Int32) (G N : Nat) {Q : Option Value → jH → Prop} (hW : WT V) (hx : jis V (.inr 4) ax) (hm : jis V (.inr 5) am) (hg : jphi V ax G) (hr : jRL V ax am) (hc : jTX V ax am) (hin1 : vp_in (i + 1) L) (hin2 : vp_in (i + 2) L) (hin3 : vp_in (i + 3) L) (kk : ∀ (V2 : jH) (G2 : Nat), WT V2 → jis V2 (.inr 4) ax → jis V2 (.inr 5) am → jphi V2 ax G2 → jRL V2 ax am → jTX V2 ax am → G2 ≤ G → J tS mL_law 1000 908 [some (.ref b), some (.ref ax), some (.ref am), some (.int i)] [] V2 (5 * N + 8 * G2) (491 * N + 20013 * G2) Q) : J tS mL_law 1000 474 [some (.ref b), some (.ref ax), some (.ref am), some (.int i)] [] V (5 * (N + 1) + 8 * G) (491 * (N + 1) + 20013 * G) Q := by
  refine J_aload_n dL_law_474 rfl ?_
  refine J_aload_n dL_law_475 rfl ?_
  refine J_iload_n dL_law_476 rfl ?_
  refine J_iconst (v := 1) dL_law_477 (by decide) ?_
  refine J_iadd dL_law_478 ?_
  refine J_sld hs9 dL_law_479 hin1 ?_
  refine J_aload_n dL_law_480 rfl ?_
  refine J_iload_n dL_law_481 rfl ?_
  refine J_iconst (v := 2) dL_law_482 (by decide) ?_
  refine J_iadd dL_law_483 ?_
  refine J_sld hs9 dL_law_484 hin2 ?_
  obtain ⟨hs, hp, hff⟩ := id hr
  obtain ⟨k, md, gr, mn, sp, f, GA, MN, SP, A, T, hc1, hr1, ht1, hk, hrows, hsp⟩ := id hs
  obtain ⟨ck, cmd, cA, ctr⟩ := id hc1
  obtain ⟨rk, rgr, rmn, rsp, rGA, rMN, rSP⟩ := id hr1
  obtain ⟨rw, px, py, pz, RW, PX, PY, PZ, q4, q6, q7, q8, b4, b6, b7, b8⟩ := WT_ref hW hm
  by_cases cW : 0 ≤ (xs (i + 1).toNatClampNeg).toInt ∧ (xs (i + 1).toNatClampNeg).toInt < k.toInt
  rotate_left
  · skip
    by_cases cX : 0 ≤ (xs (i + 2).toNatClampNeg).toInt ∧ (xs (i + 2).toNatClampNeg).toInt < k.toInt
    rotate_left
    · skip
      refine Jw_callV2 (q9 := (RX6, TX6, 7)) moX6_alike jw_ml_L_56 jw_im_X6_alike jw_se_X6_alike hx rfl rfl dL_law_485 (w_X6_alike_oo 999 _ ax (xs (i + 1).toNatClampNeg) (xs (i + 2).toNatClampNeg) k md (by decide) hW hx ck cmd cW cX) (by decide) (Nat.zero_le _) (Nat.zero_le _) (Nat.le_of_ble_eq_true rfl) (fun r V4 h => ?_)
      obtain ⟨⟨y1, rfl, -, -, hy1⟩, hE⟩ := h
      have hE := hE.symm
      subst hE
      refine J.less (kc' := 5 * N + 8 * G) (ks' := 491 * N + 20013 * G) (by omega) (by omega) ?_
      obtain ⟨G2, hGe⟩ : ∃ G2 : Nat, G2 = G := ⟨_, rfl⟩
      have hG2 : G2 ≤ G := Nat.le_of_eq hGe
      rw [← hGe] at hg ⊢
      refine J_pop dL_law_488 rfl ?_
      refine J_aload_n dL_law_489 rfl ?_
      refine J_aload_n dL_law_490 rfl ?_
      refine J_iload_n dL_law_491 rfl ?_
      refine J_iconst (v := 1) dL_law_492 (by decide) ?_
      refine J_iadd dL_law_493 ?_
      refine J_sld hs9 dL_law_494 hin1 ?_
      refine J_aload_n dL_law_495 rfl ?_
      refine J_iload_n dL_law_496 rfl ?_
      refine J_iconst (v := 2) dL_law_497 (by decide) ?_
      refine J_iadd dL_law_498 ?_
      refine J_sld hs9 dL_law_499 hin2 ?_
      refine Jw_callV2 (q9 := (RX7, TX7, 34)) moX7_alike jw_ml_L_59 jw_im_X7_alike jw_se_X7_alike hm rfl rfl dL_law_500 (w_X7_alike_bad 999 _ am (xs (i + 1).toNatClampNeg) (xs (i + 2).toNatClampNeg) k gr mn sp rw px py pz GA MN SP RW PX PY PZ (by decide) hW hm rk rgr rmn rsp q4 q6 q7 q8 rGA rMN rSP b4 b6 b7 b8 (fun q => cW ⟨q.1, q.2.1⟩)) (by decide) (Nat.zero_le _) (Nat.zero_le _) (Nat.le_of_ble_eq_true rfl) (fun r V3 h => ?_)
      obtain ⟨⟨y2, rfl, -, -, hy2⟩, hE⟩ := h
      have hE := hE.symm
      subst hE
      refine J_pop dL_law_503 rfl ?_
      refine J_goto (tgt := 908) dL_law_504 (by decide) ?_
      exact J.less (kc' := 5 * N + 8 * G2) (ks' := 491 * N + 20013 * G2) (by omega) (by omega) (kk _ G2 hW hx hm hg hr hc hG2)
    have hw9B : (((xs (i + 2).toNatClampNeg).toInt.toNat : Nat) : Int) < k.toInt := by omega
    obtain ⟨SB, XB, YB, ZB, hfoB, hrowB, hwvB⟩ := hrows (xs (i + 2).toNatClampNeg).toInt.toNat hw9B
    obtain ⟨⟨MB, mMB, eMB⟩, ⟨gB, mgB, egB⟩, ⟨nB, nnB, enB⟩, s1B, s2B, s3B, s4B, a1B, a2B, a3B, a4B⟩ := id hrowB
    obtain rfl := jI_inj.mp egB
    obtain rfl := jI_inj.mp enB
    obtain ⟨hg9B, hn9B, hstB, hjvB, havB⟩ := id hwvB
    have hTSB : ∀ q : Nat, q < (MN (xs (i + 2).toNatClampNeg).toInt.toNat).toInt.toNat → (SB q).toInt = (SP (60 * (xs (i + 2).toNatClampNeg).toInt.toNat + q)).toInt := fun q hq => (hstB q (by omega)).1
    have hSrB : ∀ j : Nat, (j : Int) < (MN (xs (i + 2).toNatClampNeg).toInt.toNat).toInt → 0 ≤ (SB j).toInt ∧ (SB j).toInt < jdir (GA (xs (i + 2).toNatClampNeg).toInt.toNat).toInt := fun j hj => by rw [(hstB j hj).1]; exact (hstB j hj).2
    have hPrB : ∀ j : Nat, (j : Int) < (MN (xs (i + 2).toNatClampNeg).toInt.toNat).toInt → 0 ≤ (SP (60 * (xs (i + 2).toNatClampNeg).toInt.toNat + j)).toInt ∧ (SP (60 * (xs (i + 2).toNatClampNeg).toInt.toNat + j)).toInt < jdir (GA (xs (i + 2).toNatClampNeg).toInt.toNat).toInt := fun j hj => (hstB j hj).2
    have hjvSB := hjvB.congr (U := fun q => (SB q).toInt) (fun q hq => (hTSB q hq).symm)
    have havSB := havB.congr (U := fun q => (SB q).toInt) (fun q hq => (hTSB q hq).symm)
    refine Jw_callV2 (q9 := (RX6, TX6, 7)) moX6_alike jw_ml_L_56 jw_im_X6_alike jw_se_X6_alike hx rfl rfl dL_law_485 (w_X6_alike_oi 999 _ ax (xs (i + 1).toNatClampNeg) (xs (i + 2).toNatClampNeg) k md f (A ((xs (i + 2).toNatClampNeg).toInt.toNat)).1 MB (GA ((xs (i + 2).toNatClampNeg).toInt.toNat)) (MN ((xs (i + 2).toNatClampNeg).toInt.toNat)) (A ((xs (i + 2).toNatClampNeg).toInt.toNat)).2.1 (A ((xs (i + 2).toNatClampNeg).toInt.toNat)).2.2.1 (A ((xs (i + 2).toNatClampNeg).toInt.toNat)).2.2.2.1 (A ((xs (i + 2).toNatClampNeg).toInt.toNat)).2.2.2.2 SB XB YB ZB (by decide) hW hx ck cmd cA mMB mgB nnB s1B s2B s3B s4B a1B a2B a3B a4B eMB hn9B.2 hfoB cW cX.1 cX.2) (by decide) (Nat.zero_le _) (Nat.zero_le _) (Nat.le_of_ble_eq_true rfl) (fun r V4 h => ?_)
    obtain ⟨⟨y1, rfl, -, -, hy1⟩, hE⟩ := h
    have hE := hE.symm
    subst hE
    refine J.less (kc' := 5 * N + 8 * G) (ks' := 491 * N + 20013 * G) (by omega) (by omega) ?_
    obtain ⟨G2, hGe⟩ : ∃ G2 : Nat, G2 = G := ⟨_, rfl⟩
    have hG2 : G2 ≤ G := Nat.le_of_eq hGe
    rw [← hGe] at hg ⊢
    refine J_pop dL_law_488 rfl ?_
    refine J_aload_n dL_law_489 rfl ?_
    refine J_aload_n dL_law_490 rfl ?_
    refine J_iload_n dL_law_491 rfl ?_
    refine J_iconst (v := 1) dL_law_492 (by decide) ?_
    refine J_iadd dL_law_493 ?_
    refine J_sld hs9 dL_law_494 hin1 ?_
    refine J_aload_n dL_law_495 rfl ?_
    refine J_iload_n dL_law_496 rfl ?_
    refine J_iconst (v := 2) dL_law_497 (by decide) ?_
    refine J_iadd dL_law_498 ?_
    refine J_sld hs9 dL_law_499 hin2 ?_
    refine Jw_callV2 (q9 := (RX7, TX7, 34)) moX7_alike jw_ml_L_59 jw_im_X7_alike jw_se_X7_alike hm rfl rfl dL_law_500 (w_X7_alike_bad 999 _ am (xs (i + 1).toNatClampNeg) (xs (i + 2).toNatClampNeg) k gr mn sp rw px py pz GA MN SP RW PX PY PZ (by decide) hW hm rk rgr rmn rsp q4 q6 q7 q8 rGA rMN rSP b4 b6 b7 b8 (fun q => cW ⟨q.1, q.2.1⟩)) (by decide) (Nat.zero_le _) (Nat.zero_le _) (Nat.le_of_ble_eq_true rfl) (fun r V3 h => ?_)
    obtain ⟨⟨y2, rfl, -, -, hy2⟩, hE⟩ := h
    have hE := hE.symm
    subst hE
    refine J_pop dL_law_503 rfl ?_
    refine J_goto (tgt := 908) dL_law_504 (by decide) ?_
    exact J.less (kc' := 5 * N + 8 * G2) (ks' := 491 * N + 20013 * G2) (by omega) (by omega) (kk _ G2 hW hx hm hg hr hc hG2)
  have hw9 : (((xs (i + 1).toNatClampNeg).toInt.toNat : Nat) : Int) < k.toInt := by omega
  obtain ⟨S, X, Y, Z, hfo, hrow, hwv⟩ := hrows (xs (i + 1).toNatClampNeg).toInt.toNat hw9
  obtain ⟨⟨M, mM, eM⟩, ⟨g, mg, eg⟩, ⟨n, nn, en⟩, s1, s2, s3, s4, a1, a2, a3, a4⟩ := id hrow
  obtain rfl := jI_inj.mp eg
  obtain rfl := jI_inj.mp en
  obtain ⟨hg9, hn9, hst, hjv, hav⟩ := id hwv
  have hTS : ∀ q : Nat, q < (MN (xs (i + 1).toNatClampNeg).toInt.toNat).toInt.toNat → (S q).toInt = (SP (60 * (xs (i + 1).toNatClampNeg).toInt.toNat + q)).toInt := fun q hq => (hst q (by omega)).1
  have hSr : ∀ j : Nat, (j : Int) < (MN (xs (i + 1).toNatClampNeg).toInt.toNat).toInt → 0 ≤ (S j).toInt ∧ (S j).toInt < jdir (GA (xs (i + 1).toNatClampNeg).toInt.toNat).toInt := fun j hj => by rw [(hst j hj).1]; exact (hst j hj).2
  have hPr : ∀ j : Nat, (j : Int) < (MN (xs (i + 1).toNatClampNeg).toInt.toNat).toInt → 0 ≤ (SP (60 * (xs (i + 1).toNatClampNeg).toInt.toNat + j)).toInt ∧ (SP (60 * (xs (i + 1).toNatClampNeg).toInt.toNat + j)).toInt < jdir (GA (xs (i + 1).toNatClampNeg).toInt.toNat).toInt := fun j hj => (hst j hj).2
  have hjvS := hjv.congr (U := fun q => (S q).toInt) (fun q hq => (hTS q hq).symm)
  have havS := hav.congr (U := fun q => (S q).toInt) (fun q hq => (hTS q hq).symm)
  by_cases cX : 0 ≤ (xs (i + 2).toNatClampNeg).toInt ∧ (xs (i + 2).toNatClampNeg).toInt < k.toInt
  rotate_left
  · skip
    refine Jw_callV2 (q9 := (RX6, TX6, 7)) moX6_alike jw_ml_L_56 jw_im_X6_alike jw_se_X6_alike hx rfl rfl dL_law_485 (w_X6_alike_out2 999 _ ax (xs (i + 1).toNatClampNeg) (xs (i + 2).toNatClampNeg) k md f (A ((xs (i + 1).toNatClampNeg).toInt.toNat)).1 M (GA ((xs (i + 1).toNatClampNeg).toInt.toNat)) (MN ((xs (i + 1).toNatClampNeg).toInt.toNat)) (A ((xs (i + 1).toNatClampNeg).toInt.toNat)).2.1 (A ((xs (i + 1).toNatClampNeg).toInt.toNat)).2.2.1 (A ((xs (i + 1).toNatClampNeg).toInt.toNat)).2.2.2.1 (A ((xs (i + 1).toNatClampNeg).toInt.toNat)).2.2.2.2 S X Y Z (by decide) hW hx ck cmd cA mM mg nn s1 s2 s3 s4 a1 a2 a3 a4 eM hn9.2 hfo cW.1 cW.2 cX) (by decide) (Nat.zero_le _) (Nat.zero_le _) (Nat.le_of_ble_eq_true rfl) (fun r V4 h => ?_)
    obtain ⟨⟨y1, rfl, -, -, hy1⟩, hE⟩ := h
    have hE := hE.symm
    subst hE
    refine J.less (kc' := 5 * N + 8 * G) (ks' := 491 * N + 20013 * G) (by omega) (by omega) ?_
    obtain ⟨G2, hGe⟩ : ∃ G2 : Nat, G2 = G := ⟨_, rfl⟩
    have hG2 : G2 ≤ G := Nat.le_of_eq hGe
    rw [← hGe] at hg ⊢
    refine J_pop dL_law_488 rfl ?_
    refine J_aload_n dL_law_489 rfl ?_
    refine J_aload_n dL_law_490 rfl ?_
    refine J_iload_n dL_law_491 rfl ?_
    refine J_iconst (v := 1) dL_law_492 (by decide) ?_
    refine J_iadd dL_law_493 ?_
    refine J_sld hs9 dL_law_494 hin1 ?_
    refine J_aload_n dL_law_495 rfl ?_
    refine J_iload_n dL_law_496 rfl ?_
    refine J_iconst (v := 2) dL_law_497 (by decide) ?_
    refine J_iadd dL_law_498 ?_
    refine J_sld hs9 dL_law_499 hin2 ?_
    refine Jw_callV2 (q9 := (RX7, TX7, 34)) moX7_alike jw_ml_L_59 jw_im_X7_alike jw_se_X7_alike hm rfl rfl dL_law_500 (w_X7_alike_bad 999 _ am (xs (i + 1).toNatClampNeg) (xs (i + 2).toNatClampNeg) k gr mn sp rw px py pz GA MN SP RW PX PY PZ (by decide) hW hm rk rgr rmn rsp q4 q6 q7 q8 rGA rMN rSP b4 b6 b7 b8 (fun q => cX ⟨q.2.2.1, q.2.2.2⟩)) (by decide) (Nat.zero_le _) (Nat.zero_le _) (Nat.le_of_ble_eq_true rfl) (fun r V3 h => ?_)
    obtain ⟨⟨y2, rfl, -, -, hy2⟩, hE⟩ := h
    have hE := hE.symm
    subst hE
    refine J_pop dL_law_503 rfl ?_
    refine J_goto (tgt := 908) dL_law_504 (by decide) ?_
    exact J.less (kc' := 5 * N + 8 * G2) (ks' := 491 * N + 20013 * G2) (by omega) (by omega) (kk _ G2 hW hx hm hg hr hc hG2)
  have hw9B : (((xs (i + 2).toNatClampNeg).toInt.toNat : Nat) : Int) < k.toInt := by omega
  obtain ⟨SB, XB, YB, ZB, hfoB, hrowB, hwvB⟩ := hrows (xs (i + 2).toNatClampNeg).toInt.toNat hw9B
  obtain ⟨⟨MB, mMB, eMB⟩, ⟨gB, mgB, egB⟩, ⟨nB, nnB, enB⟩, s1B, s2B, s3B, s4B, a1B, a2B, a3B, a4B⟩ := id hrowB
  obtain rfl := jI_inj.mp egB
  obtain rfl := jI_inj.mp enB
  obtain ⟨hg9B, hn9B, hstB, hjvB, havB⟩ := id hwvB
  have hTSB : ∀ q : Nat, q < (MN (xs (i + 2).toNatClampNeg).toInt.toNat).toInt.toNat → (SB q).toInt = (SP (60 * (xs (i + 2).toNatClampNeg).toInt.toNat + q)).toInt := fun q hq => (hstB q (by omega)).1
  have hSrB : ∀ j : Nat, (j : Int) < (MN (xs (i + 2).toNatClampNeg).toInt.toNat).toInt → 0 ≤ (SB j).toInt ∧ (SB j).toInt < jdir (GA (xs (i + 2).toNatClampNeg).toInt.toNat).toInt := fun j hj => by rw [(hstB j hj).1]; exact (hstB j hj).2
  have hPrB : ∀ j : Nat, (j : Int) < (MN (xs (i + 2).toNatClampNeg).toInt.toNat).toInt → 0 ≤ (SP (60 * (xs (i + 2).toNatClampNeg).toInt.toNat + j)).toInt ∧ (SP (60 * (xs (i + 2).toNatClampNeg).toInt.toNat + j)).toInt < jdir (GA (xs (i + 2).toNatClampNeg).toInt.toNat).toInt := fun j hj => (hstB j hj).2
  have hjvSB := hjvB.congr (U := fun q => (SB q).toInt) (fun q hq => (hTSB q hq).symm)
  have havSB := havB.congr (U := fun q => (SB q).toInt) (fun q hq => (hTSB q hq).symm)
  by_cases cE : (GA ((xs (i + 1).toNatClampNeg).toInt.toNat)).toInt = (GA ((xs (i + 2).toNatClampNeg).toInt.toNat)).toInt
  rotate_left
  · skip
    refine Jw_callV2 (q9 := (RX6, TX6, 7)) moX6_alike jw_ml_L_56 jw_im_X6_alike jw_se_X6_alike hx rfl rfl dL_law_485 (w_X6_alike_dif 999 _ ax (xs (i + 1).toNatClampNeg) (xs (i + 2).toNatClampNeg) k md f (A ((xs (i + 1).toNatClampNeg).toInt.toNat)).1 M (GA ((xs (i + 1).toNatClampNeg).toInt.toNat)) (MN ((xs (i + 1).toNatClampNeg).toInt.toNat)) (A ((xs (i + 1).toNatClampNeg).toInt.toNat)).2.1 (A ((xs (i + 1).toNatClampNeg).toInt.toNat)).2.2.1 (A ((xs (i + 1).toNatClampNeg).toInt.toNat)).2.2.2.1 (A ((xs (i + 1).toNatClampNeg).toInt.toNat)).2.2.2.2 S X Y Z (A ((xs (i + 2).toNatClampNeg).toInt.toNat)).1 MB (GA ((xs (i + 2).toNatClampNeg).toInt.toNat)) (MN ((xs (i + 2).toNatClampNeg).toInt.toNat)) (A ((xs (i + 2).toNatClampNeg).toInt.toNat)).2.1 (A ((xs (i + 2).toNatClampNeg).toInt.toNat)).2.2.1 (A ((xs (i + 2).toNatClampNeg).toInt.toNat)).2.2.2.1 (A ((xs (i + 2).toNatClampNeg).toInt.toNat)).2.2.2.2 SB XB YB ZB (by decide) hW hx ck cmd cA mM mg nn s1 s2 s3 s4 a1 a2 a3 a4 eM hn9.2 hfo mMB mgB nnB s1B s2B s3B s4B a1B a2B a3B a4B eMB hn9B.2 hfoB cW.1 cW.2 cX.1 cX.2 cE) (by decide) (Nat.zero_le _) (Nat.zero_le _) (Nat.le_of_ble_eq_true rfl) (fun r V4 h => ?_)
    obtain ⟨⟨y1, rfl, -, -, hy1⟩, hE⟩ := h
    have hE := hE.symm
    subst hE
    refine J.less (kc' := 5 * N + 8 * G) (ks' := 491 * N + 20013 * G) (by omega) (by omega) ?_
    obtain ⟨G2, hGe⟩ : ∃ G2 : Nat, G2 = G := ⟨_, rfl⟩
    have hG2 : G2 ≤ G := Nat.le_of_eq hGe
    rw [← hGe] at hg ⊢
    refine J_pop dL_law_488 rfl ?_
    refine J_aload_n dL_law_489 rfl ?_
    refine J_aload_n dL_law_490 rfl ?_
    refine J_iload_n dL_law_491 rfl ?_
    refine J_iconst (v := 1) dL_law_492 (by decide) ?_
    refine J_iadd dL_law_493 ?_
    refine J_sld hs9 dL_law_494 hin1 ?_
    refine J_aload_n dL_law_495 rfl ?_
    refine J_iload_n dL_law_496 rfl ?_
    refine J_iconst (v := 2) dL_law_497 (by decide) ?_
    refine J_iadd dL_law_498 ?_
    refine J_sld hs9 dL_law_499 hin2 ?_
    refine Jw_callV2 (q9 := (RX7, TX7, 34)) moX7_alike jw_ml_L_59 jw_im_X7_alike jw_se_X7_alike hm rfl rfl dL_law_500 (w_X7_alike_dif 999 _ am (xs (i + 1).toNatClampNeg) (xs (i + 2).toNatClampNeg) k gr mn sp rw px py pz GA MN SP RW PX PY PZ (by decide) hW hm rk rgr rmn rsp q4 q6 q7 q8 rGA rMN rSP b4 b6 b7 b8 cW.1 cW.2 cX.1 cX.2 cE) (by decide) (Nat.zero_le _) (Nat.zero_le _) (Nat.le_of_ble_eq_true rfl) (fun r V3 h => ?_)
    obtain ⟨⟨y2, rfl, -, -, hy2⟩, hE⟩ := h
    have hE := hE.symm
    subst hE
    refine J_pop dL_law_503 rfl ?_
    refine J_goto (tgt := 908) dL_law_504 (by decide) ?_
    exact J.less (kc' := 5 * N + 8 * G2) (ks' := 491 * N + 20013 * G2) (by omega) (by omega) (kk _ G2 hW hx hm hg hr hc hG2)
  obtain ⟨fm, oh, FM, OH, q9, q10, b9, b10⟩ := WT_forms hW hm
  by_cases cN : (MN ((xs (i + 1).toNatClampNeg).toInt.toNat)).toInt = (MN ((xs (i + 2).toNatClampNeg).toInt.toNat)).toInt
  rotate_left
  · skip
    refine Jw_callV2 (q9 := (RX6, TX6, 7)) moX6_alike jw_ml_L_56 jw_im_X6_alike jw_se_X6_alike hx rfl rfl dL_law_485 (w_X6_alike_size 999 _ ax (xs (i + 1).toNatClampNeg) (xs (i + 2).toNatClampNeg) k md f (A ((xs (i + 1).toNatClampNeg).toInt.toNat)).1 M (GA ((xs (i + 1).toNatClampNeg).toInt.toNat)) (MN ((xs (i + 1).toNatClampNeg).toInt.toNat)) (A ((xs (i + 1).toNatClampNeg).toInt.toNat)).2.1 (A ((xs (i + 1).toNatClampNeg).toInt.toNat)).2.2.1 (A ((xs (i + 1).toNatClampNeg).toInt.toNat)).2.2.2.1 (A ((xs (i + 1).toNatClampNeg).toInt.toNat)).2.2.2.2 S X Y Z (A ((xs (i + 2).toNatClampNeg).toInt.toNat)).1 MB (GA ((xs (i + 2).toNatClampNeg).toInt.toNat)) (MN ((xs (i + 2).toNatClampNeg).toInt.toNat)) (A ((xs (i + 2).toNatClampNeg).toInt.toNat)).2.1 (A ((xs (i + 2).toNatClampNeg).toInt.toNat)).2.2.1 (A ((xs (i + 2).toNatClampNeg).toInt.toNat)).2.2.2.1 (A ((xs (i + 2).toNatClampNeg).toInt.toNat)).2.2.2.2 SB XB YB ZB (by decide) hW hx ck cmd cA mM mg nn s1 s2 s3 s4 a1 a2 a3 a4 eM hn9.2 hfo mMB mgB nnB s1B s2B s3B s4B a1B a2B a3B a4B eMB hn9B.2 hfoB cW.1 cW.2 cX.1 cX.2 cE cN) (by decide) (Nat.zero_le _) (Nat.zero_le _) (Nat.le_of_ble_eq_true rfl) (fun r V4 h => ?_)
    obtain ⟨⟨y1, rfl, -, -, hy1⟩, hE⟩ := h
    have hE := hE.symm
    subst hE
    refine J.less (kc' := 5 * N + 8 * G) (ks' := 491 * N + 20013 * G) (by omega) (by omega) ?_
    obtain ⟨G2, hGe⟩ : ∃ G2 : Nat, G2 = G := ⟨_, rfl⟩
    have hG2 : G2 ≤ G := Nat.le_of_eq hGe
    rw [← hGe] at hg ⊢
    refine J_pop dL_law_488 rfl ?_
    refine J_aload_n dL_law_489 rfl ?_
    refine J_aload_n dL_law_490 rfl ?_
    refine J_iload_n dL_law_491 rfl ?_
    refine J_iconst (v := 1) dL_law_492 (by decide) ?_
    refine J_iadd dL_law_493 ?_
    refine J_sld hs9 dL_law_494 hin1 ?_
    refine J_aload_n dL_law_495 rfl ?_
    refine J_iload_n dL_law_496 rfl ?_
    refine J_iconst (v := 2) dL_law_497 (by decide) ?_
    refine J_iadd dL_law_498 ?_
    refine J_sld hs9 dL_law_499 hin2 ?_
    refine Jw_callV2 (q9 := (RX7, TX7, 34)) moX7_alike jw_ml_L_59 jw_im_X7_alike jw_se_X7_alike hm rfl rfl dL_law_500 (w_X7_alike_ok 999 _ am (xs (i + 1).toNatClampNeg) (xs (i + 2).toNatClampNeg) k gr mn sp rw fm oh GA MN SP RW FM OH (by decide) hW hm rk rgr rmn rsp q4 q9 q10 rGA rMN rSP b4 b9 b10 cW.1 cW.2 cX.1 cX.2 cE hPr hPrB) (by decide) (Nat.zero_le _) (Nat.zero_le _) (Nat.le_of_ble_eq_true rfl) (fun r V3 h => ?_)
    obtain ⟨⟨hW, he5, y2, rfl, -, -, hy2⟩, hkp⟩ := h
    have hx := hx.mono he5.1
    have hm := hm.mono he5.1
    have hg := hg.keep he5 (jnot_of rfl) (jnot_of rfl)
    have hc := hc.keep he5 (jdis_of rfl)
    have hr := hr.ref he5 hkp (by decide) (jdis_of rfl)
    have hyA : y1.toInt = y2.toInt := by
      rcases hy2 with q2 | q2
      · first | exact absurd q2.2.1 cN | (rcases hy1 with q1 | q1; exact q1.1.trans q2.1.symm; exact absurd (hal.mpr q2.2) q1.2)
      · first | omega | (rcases hy1 with q1 | q1; exact absurd (hal.mp q1.2) q2.2; exact q1.1.trans q2.1.symm)
    refine J_pop dL_law_503 rfl ?_
    refine J_goto (tgt := 908) dL_law_504 (by decide) ?_
    exact J.less (kc' := 5 * N + 8 * G2) (ks' := 491 * N + 20013 * G2) (by omega) (by omega) (kk _ G2 hW hx hm hg hr hc hG2)
  obtain ⟨o1, o2, ho1, ho2, hone⟩ := id hff
  obtain ⟨OF, d1⟩ := WT_form7 hW ho1 (Or.inl rfl)
  obtain ⟨OT, d2⟩ := WT_form7 hW ho2 (Or.inr rfl)
  refine Jw_callV2 (q9 := (RX6, TX6, 7)) moX6_alike jw_ml_L_56 jw_im_X6_alike jw_se_X6_alike hx rfl rfl dL_law_485 (w_X6_alike_ok 999 _ ax (xs (i + 1).toNatClampNeg) (xs (i + 2).toNatClampNeg) k md o1 o2 f (A ((xs (i + 1).toNatClampNeg).toInt.toNat)).1 M (GA ((xs (i + 1).toNatClampNeg).toInt.toNat)) (MN ((xs (i + 1).toNatClampNeg).toInt.toNat)) (A ((xs (i + 1).toNatClampNeg).toInt.toNat)).2.1 (A ((xs (i + 1).toNatClampNeg).toInt.toNat)).2.2.1 (A ((xs (i + 1).toNatClampNeg).toInt.toNat)).2.2.2.1 (A ((xs (i + 1).toNatClampNeg).toInt.toNat)).2.2.2.2 S X Y Z (A ((xs (i + 2).toNatClampNeg).toInt.toNat)).1 MB (GA ((xs (i + 2).toNatClampNeg).toInt.toNat)) (MN ((xs (i + 2).toNatClampNeg).toInt.toNat)) (A ((xs (i + 2).toNatClampNeg).toInt.toNat)).2.1 (A ((xs (i + 2).toNatClampNeg).toInt.toNat)).2.2.1 (A ((xs (i + 2).toNatClampNeg).toInt.toNat)).2.2.2.1 (A ((xs (i + 2).toNatClampNeg).toInt.toNat)).2.2.2.2 SB XB YB ZB OF OT (by decide) hW hx ck cmd ho1 ho2 cA mM mg nn s1 s2 s3 s4 a1 a2 a3 a4 eM hn9.2 hfo mMB mgB nnB s1B s2B s3B s4B a1B a2B a3B a4B eMB hn9B.2 hfoB (fun b hb z => hone ((List.mem_singleton.mp z).symm.trans (List.mem_singleton.mp hb))) (fun b hb z => hone ((List.mem_singleton.mp hb).symm.trans (List.mem_singleton.mp z))) d1 d2 cW.1 cW.2 cX.1 cX.2 hg9.1 hg9.2 cE cN hSr hSrB) (by decide) (Nat.zero_le _) (Nat.zero_le _) (Nat.le_of_ble_eq_true rfl) (fun r V4 h => ?_)
  obtain ⟨⟨hW, he, y1, rfl, -, -, hy1⟩, hfp⟩ := h
  have hx := hx.mono he.1
  have hm := hm.mono he.1
  have hg := hg.keep he (jnot_of rfl) (jnot_of rfl)
  have hc := hc.keep he (jdis_of rfl)
  have rk := rk.keep he (jnot_of rfl)
  have rgr := rgr.mono he.1
  have rmn := rmn.mono he.1
  have rsp := rsp.mono he.1
  have q4 := q4.mono he.1
  have q6 := q6.mono he.1
  have q7 := q7.mono he.1
  have q8 := q8.mono he.1
  have rGA := he.2 _ _ rGA (jnot_of rfl)
  have rMN := he.2 _ _ rMN (jnot_of rfl)
  have rSP := he.2 _ _ rSP (jnot_of rfl)
  have b4 := he.2 _ _ b4 (jnot_of rfl)
  have b6 := he.2 _ _ b6 (jnot_of rfl)
  have b7 := he.2 _ _ b7 (jnot_of rfl)
  have b8 := he.2 _ _ b8 (jnot_of rfl)
  have q9 := q9.mono he.1
  have q10 := q10.mono he.1
  have b9 := he.2 _ _ b9 (jnot_of rfl)
  have b10 := he.2 _ _ b10 (jnot_of rfl)
  have hr := hr.own he (jdis_of rfl)
  have hal : (∀ j : Nat, j < (MN ((xs (i + 1).toNatClampNeg).toInt.toNat)).toInt.toNat → jbs (GA ((xs (i + 1).toNatClampNeg).toInt.toNat)).toInt (fun q => (S q).toInt) (MN ((xs (i + 1).toNatClampNeg).toInt.toNat)).toInt.toNat (2 * jtur (GA ((xs (i + 1).toNatClampNeg).toInt.toNat)).toInt).toNat j = jbs (GA ((xs (i + 1).toNatClampNeg).toInt.toNat)).toInt (fun q => (SB q).toInt) (MN ((xs (i + 1).toNatClampNeg).toInt.toNat)).toInt.toNat (2 * jtur (GA ((xs (i + 1).toNatClampNeg).toInt.toNat)).toInt).toNat j) ↔ ((MN ((xs (i + 1).toNatClampNeg).toInt.toNat)).toInt = (MN ((xs (i + 2).toNatClampNeg).toInt.toNat)).toInt ∧ ∀ j : Nat, j < (MN ((xs (i + 1).toNatClampNeg).toInt.toNat)).toInt.toNat → jbs (GA ((xs (i + 1).toNatClampNeg).toInt.toNat)).toInt (fun q => (SP (60 * ((xs (i + 1).toNatClampNeg).toInt.toNat) + q)).toInt) (MN ((xs (i + 1).toNatClampNeg).toInt.toNat)).toInt.toNat (2 * jtur (GA ((xs (i + 1).toNatClampNeg).toInt.toNat)).toInt).toNat j = jbs (GA ((xs (i + 1).toNatClampNeg).toInt.toNat)).toInt (fun q => (SP (60 * ((xs (i + 2).toNatClampNeg).toInt.toNat) + q)).toInt) (MN ((xs (i + 2).toNatClampNeg).toInt.toNat)).toInt.toNat (2 * jtur (GA ((xs (i + 1).toNatClampNeg).toInt.toNat)).toInt).toNat j) := by
    rw [← cN]
    exact ⟨fun z => ⟨rfl, fun j hj => by rw [← jbs_congr hTS _ j hj, ← jbs_congr (fun q hq => hTSB q (by omega)) _ j hj]; exact z j hj⟩, fun z j hj => by rw [jbs_congr hTS _ j hj, jbs_congr (fun q hq => hTSB q (by omega)) _ j hj]; exact z.2 j hj⟩
  refine J.less (kc' := 5 * N + 8 * G) (ks' := 491 * N + 20013 * G) (by omega) (by omega) ?_
  obtain ⟨G2, hGe⟩ : ∃ G2 : Nat, G2 = G := ⟨_, rfl⟩
  have hG2 : G2 ≤ G := Nat.le_of_eq hGe
  rw [← hGe] at hg ⊢
  refine J_pop dL_law_488 rfl ?_
  refine J_aload_n dL_law_489 rfl ?_
  refine J_aload_n dL_law_490 rfl ?_
  refine J_iload_n dL_law_491 rfl ?_
  refine J_iconst (v := 1) dL_law_492 (by decide) ?_
  refine J_iadd dL_law_493 ?_
  refine J_sld hs9 dL_law_494 hin1 ?_
  refine J_aload_n dL_law_495 rfl ?_
  refine J_iload_n dL_law_496 rfl ?_
  refine J_iconst (v := 2) dL_law_497 (by decide) ?_
  refine J_iadd dL_law_498 ?_
  refine J_sld hs9 dL_law_499 hin2 ?_
  refine Jw_callV2 (q9 := (RX7, TX7, 34)) moX7_alike jw_ml_L_59 jw_im_X7_alike jw_se_X7_alike hm rfl rfl dL_law_500 (w_X7_alike_ok 999 _ am (xs (i + 1).toNatClampNeg) (xs (i + 2).toNatClampNeg) k gr mn sp rw fm oh GA MN SP RW FM OH (by decide) hW hm rk rgr rmn rsp q4 q9 q10 rGA rMN rSP b4 b9 b10 cW.1 cW.2 cX.1 cX.2 cE hPr hPrB) (by decide) (Nat.zero_le _) (Nat.zero_le _) (Nat.le_of_ble_eq_true rfl) (fun r V3 h => ?_)
  obtain ⟨⟨hW, he5, y2, rfl, -, -, hy2⟩, hkp⟩ := h
  have hx := hx.mono he5.1
  have hm := hm.mono he5.1
  have hg := hg.keep he5 (jnot_of rfl) (jnot_of rfl)
  have hc := hc.keep he5 (jdis_of rfl)
  have hr := hr.ref he5 hkp (by decide) (jdis_of rfl)
  have hyA : y1.toInt = y2.toInt := by
    rcases hy2 with q2 | q2
    · first | exact absurd q2.2.1 cN | (rcases hy1 with q1 | q1; exact q1.1.trans q2.1.symm; exact absurd (hal.mpr q2.2) q1.2)
    · first | omega | (rcases hy1 with q1 | q1; exact absurd (hal.mp q1.2) q2.2; exact q1.1.trans q2.1.symm)
  refine J_pop dL_law_503 rfl ?_
  refine J_goto (tgt := 908) dL_law_504 (by decide) ?_
  exact J.less (kc' := 5 * N + 8 * G2) (ks' := 491 * N + 20013 * G2) (by omega) (by omega) (kk _ G2 hW hx hm hg hr hc hG2)
set_option maxRecDepth 100000 in
set_option maxHeartbeats 4000000 in
theorem lawc_11 {tS : jTS} {b L : Nat} {xs : Nat → Int32} (hs9 : tS.2 = some (b, L, xs)) (V : jH) (ax am : Nat) (i : Int32) (G N : Nat) {Q : Option Value → jH → Prop} (hW : WT V) (hx : jis V (.inr 4) ax) (hm : jis V (.inr 5) am) (hg : jphi V ax G) (hr : jRL V ax am) (hc : jTX V ax am) (hin1 : vp_in (i + 1) L) (hin2 : vp_in (i + 2) L) (hin3 : vp_in (i + 3) L) (kk : ∀ (V2 : jH) (G2 : Nat), WT V2 → jis V2 (.inr 4) ax → jis V2 (.inr 5) am → jphi V2 ax G2 → jRL V2 ax am → jTX V2 ax am → G2 ≤ G → J tS mL_law 1000 908 [some (.ref b), some (.ref ax), some (.ref am), some (.int i)] [] V2 (5 * N + 8 * G2) (491 * N + 20013 * G2) Q) : J tS mL_law 1000 507 [some (.ref b), some (.ref ax), some (.ref am), some (.int i)] [] V (5 * (N + 1) + 8 * G) (491 * (N + 1) + 20013 * G) Q := by
  refine J_aload_n dL_law_507 rfl ?_
  refine J_aload_n dL_law_508 rfl ?_
  refine J_iload_n dL_law_509 rfl ?_
  refine J_iconst (v := 1) dL_law_510 (by decide) ?_
  refine J_iadd dL_law_511 ?_
  refine J_sld hs9 dL_law_512 hin1 ?_
  refine J_aload_n dL_law_513 rfl ?_
  refine J_iload_n dL_law_514 rfl ?_
  refine J_iconst (v := 2) dL_law_515 (by decide) ?_
  refine J_iadd dL_law_516 ?_
  refine J_sld hs9 dL_law_517 hin2 ?_
  have K : ∀ (V2 : jH) (G2 : Nat) (y1 : Int32), (((0 ≤ (xs (i + 1).toNatClampNeg).toInt ∧ (xs (i + 1).toNatClampNeg).toInt ≤ 3 ∧ 0 ≤ (xs (i + 2).toNatClampNeg).toInt ∧ (xs (i + 2).toNatClampNeg).toInt ≤ 20) ∧ ((jTT (xs (i + 1).toNatClampNeg).toInt (xs (i + 2).toNatClampNeg).toInt.toNat jL0 ≤ 600000 ∧ y1.toInt = ((jrq (xs (i + 1).toNatClampNeg).toInt (xs (i + 2).toNatClampNeg).toInt.toNat).1 : Int)) ∨ (600000 < jTT (xs (i + 1).toNatClampNeg).toInt (xs (i + 2).toNatClampNeg).toInt.toNat jL0 ∧ y1.toInt = -5))) ∨ (¬ (0 ≤ (xs (i + 1).toNatClampNeg).toInt ∧ (xs (i + 1).toNatClampNeg).toInt ≤ 3 ∧ 0 ≤ (xs (i + 2).toNatClampNeg).toInt ∧ (xs (i + 2).toNatClampNeg).toInt ≤ 20) ∧ y1.toInt = -2)) → WT V2 → jis V2 (.inr 4) ax → jis V2 (.inr 5) am → jphi V2 ax G2 → jRL V2 ax am → jTX V2 ax am → G2 ≤ G → J tS mL_law 1000 521 [some (.ref b), some (.ref ax), some (.ref am), some (.int i)] [.int y1] V2 (5 * N + 8 * G2) (491 * N + 20013 * G2) Q := by
    intro V2 G2 y1 hy1 hW hx hm hg hr hc hG2
    refine J_pop dL_law_521 rfl ?_
    refine J_aload_n dL_law_522 rfl ?_
    refine J_aload_n dL_law_523 rfl ?_
    refine J_iload_n dL_law_524 rfl ?_
    refine J_iconst (v := 1) dL_law_525 (by decide) ?_
    refine J_iadd dL_law_526 ?_
    refine J_sld hs9 dL_law_527 hin1 ?_
    refine J_aload_n dL_law_528 rfl ?_
    refine J_iload_n dL_law_529 rfl ?_
    refine J_iconst (v := 2) dL_law_530 (by decide) ?_
    refine J_iadd dL_law_531 ?_
    refine J_sld hs9 dL_law_532 hin2 ?_
    refine Jw_callV2 (q9 := (RX7, TX7, 34)) moX7_walks jw_ml_L_63 jw_im_X7_walks jw_se_X7_walks hm rfl rfl dL_law_533 (w_X7_walks_z 999 _ am (xs (i + 1).toNatClampNeg) (xs (i + 2).toNatClampNeg) (by decide) hW hm hc.2.1) (by decide) (Nat.zero_le _) (Nat.zero_le _) (Nat.le_of_ble_eq_true rfl) (fun r V3 h => ?_)
    obtain ⟨⟨hW, he, y2, rfl, -, -, hy2⟩, hRM, hkp⟩ := h
    have hx := hx.mono he.1
    have hm := hm.mono he.1
    have hg := hg.keep he (jnot_of rfl) (jnot_of rfl)
    have hc : jTX V3 ax am := ⟨hc.1.keep he (jdis_of rfl), hRM, hc.2.2.1.keep he (jdis_of rfl), hc.2.2.2.keep he (jdis_of rfl)⟩
    have hr := hr.ref he hkp (by decide) (jdis_of rfl)
    have hyA : y1.toInt = y2.toInt := by
      rcases hy1 with ⟨p1, p2⟩ | ⟨p1, p2⟩
      · rcases hy2 with ⟨p3, p4⟩ | ⟨p3, p4⟩
        · rcases p2 with ⟨p5, p6⟩ | ⟨p5, p6⟩
          · rcases p4 with ⟨p7, p8⟩ | ⟨p7, p8⟩
            · exact p6.trans p8.symm
            · exact absurd p7 (by omega)
          · rcases p4 with ⟨p7, p8⟩ | ⟨p7, p8⟩
            · exact absurd p7 (by omega)
            · exact p6.trans p8.symm
        · exact absurd p1 p3
      · rcases hy2 with ⟨p3, p4⟩ | ⟨p3, p4⟩
        · exact absurd p3 p1
        · exact p2.trans p4.symm
    refine J_pop dL_law_536 rfl ?_
    refine J_goto (tgt := 908) dL_law_537 (by decide) ?_
    exact J.less (kc' := 5 * N + 8 * G2) (ks' := 491 * N + 20013 * G2) (by omega) (by omega) (kk _ G2 hW hx hm hg hr hc hG2)
  by_cases c1 : (xs (i + 1).toNatClampNeg) < 0
  · refine Jw_callV2 (q9 := (RX6, TX6, 7)) moX6_walks jw_ml_L_60 jw_im_X6_walks jw_se_X6_walks hx rfl rfl dL_law_518 (w_X6_walks_zbad 999 _ ax _ _ (by decide) hW hx (Or.inl c1)) (by decide) (Nat.zero_le _) (Nat.zero_le _) (Nat.le_of_ble_eq_true rfl) (fun r V3 h => ?_)
    obtain ⟨⟨y1, rfl, -, -, hy1⟩, hE⟩ := h
    have hE := hE.symm
    subst hE
    exact J.less (kc' := 5 * N + 8 * (G)) (ks' := 491 * N + 20013 * (G)) (by omega) (by omega) (K _ (G) _ (Or.inr ⟨(fun q => by rw [jlt] at c1; have q9 : (0 : Int32).toInt = 0 := rfl; omega), hy1⟩) hW hx hm hg hr hc (Nat.le_refl _))
  by_cases c2 : Int32.ofNat 4 ≤ (xs (i + 1).toNatClampNeg)
  · refine Jw_callV2 (q9 := (RX6, TX6, 7)) moX6_walks jw_ml_L_60 jw_im_X6_walks jw_se_X6_walks hx rfl rfl dL_law_518 (w_X6_walks_zbad 999 _ ax _ _ (by decide) hW hx (Or.inr (Or.inl c2))) (by decide) (Nat.zero_le _) (Nat.zero_le _) (Nat.le_of_ble_eq_true rfl) (fun r V3 h => ?_)
    obtain ⟨⟨y1, rfl, -, -, hy1⟩, hE⟩ := h
    have hE := hE.symm
    subst hE
    exact J.less (kc' := 5 * N + 8 * (G)) (ks' := 491 * N + 20013 * (G)) (by omega) (by omega) (K _ (G) _ (Or.inr ⟨(fun q => by rw [jle] at c2; have q9 : (Int32.ofNat 4).toInt = 4 := rfl; omega), hy1⟩) hW hx hm hg hr hc (Nat.le_refl _))
  by_cases c3 : (xs (i + 2).toNatClampNeg) < 0
  · refine Jw_callV2 (q9 := (RX6, TX6, 7)) moX6_walks jw_ml_L_60 jw_im_X6_walks jw_se_X6_walks hx rfl rfl dL_law_518 (w_X6_walks_zbad 999 _ ax _ _ (by decide) hW hx (Or.inr (Or.inr (Or.inl c3)))) (by decide) (Nat.zero_le _) (Nat.zero_le _) (Nat.le_of_ble_eq_true rfl) (fun r V3 h => ?_)
    obtain ⟨⟨y1, rfl, -, -, hy1⟩, hE⟩ := h
    have hE := hE.symm
    subst hE
    exact J.less (kc' := 5 * N + 8 * (G)) (ks' := 491 * N + 20013 * (G)) (by omega) (by omega) (K _ (G) _ (Or.inr ⟨(fun q => by rw [jlt] at c3; have q9 : (0 : Int32).toInt = 0 := rfl; omega), hy1⟩) hW hx hm hg hr hc (Nat.le_refl _))
  by_cases c4 : (xs (i + 2).toNatClampNeg) ≤ 20
  rotate_left
  · refine Jw_callV2 (q9 := (RX6, TX6, 7)) moX6_walks jw_ml_L_60 jw_im_X6_walks jw_se_X6_walks hx rfl rfl dL_law_518 (w_X6_walks_zbad 999 _ ax _ _ (by decide) hW hx (Or.inr (Or.inr (Or.inr c4)))) (by decide) (Nat.zero_le _) (Nat.zero_le _) (Nat.le_of_ble_eq_true rfl) (fun r V3 h => ?_)
    obtain ⟨⟨y1, rfl, -, -, hy1⟩, hE⟩ := h
    have hE := hE.symm
    subst hE
    exact J.less (kc' := 5 * N + 8 * (G)) (ks' := 491 * N + 20013 * (G)) (by omega) (by omega) (K _ (G) _ (Or.inr ⟨(fun q => by rw [jle] at c4; have q9 : (20 : Int32).toInt = 20 := rfl; omega), hy1⟩) hW hx hm hg hr hc (Nat.le_refl _))
  have hR : (0 ≤ (xs (i + 1).toNatClampNeg).toInt ∧ (xs (i + 1).toNatClampNeg).toInt ≤ 3 ∧ 0 ≤ (xs (i + 2).toNatClampNeg).toInt ∧ (xs (i + 2).toNatClampNeg).toInt ≤ 20) := by
    have c1i := c1
    have c2i := c2
    have c3i := c3
    have c4i := c4
    rw [jlt] at c1i c3i
    rw [jle] at c2i c4i
    have q9 : (0 : Int32).toInt = 0 := rfl
    have q8 : (Int32.ofNat 4).toInt = 4 := rfl
    have q7 : (0 : Int32).toInt = 0 := rfl
    have q6 : (20 : Int32).toInt = 20 := rfl
    omega
  obtain ⟨fs, tl, f, g, hO, hF, hA, hgs, hsum⟩ := id hg
  obtain ⟨j, hj, hgj⟩ := vp_in_of (vp_in_g c1 c2 (by decide)) (by decide)
  obtain ⟨fs8, tl8, f8, A, v1, v2, v3, hty4, hA5⟩ := id hc.1
  cases hO.symm.trans v1
  cases hF.symm.trans v2
  cases hA.symm.trans v3
  have hgi : (xs (i + 1).toNatClampNeg).toInt = (j : Int) := by rw [hgj]; exact nI_toInt (by omega)
  cases hf : f j with
  | none =>
    have hroom := jg_none hgs hsum hj hf
    refine Jw_callV2 (q9 := (RX6, TX6, 7)) moX6_walks jw_ml_L_60 jw_im_X6_walks jw_se_X6_walks hx rfl rfl dL_law_518 (w_X6_walks_znew 999 _ ax _ _ fs tl f j A (by decide) hW hx hO hF hA hgj hj c1 c2 c3 c4 hf hty4 hA5 (by omega) (by omega)) (by decide) (by omega) (by omega) (Nat.le_of_ble_eq_true rfl) (fun r V3 h => ?_)
    obtain ⟨⟨hW2, he, y1, rfl, -, -, hy1⟩, hTL, ⟨f2, hA2, h2, h3⟩, hTF⟩ := h
    obtain ⟨hG2, hg2⟩ := jphi.fresh hO hF hA2 hgs hsum he.1 (jle9.of he (jnot_of rfl)) hW2 hj hf h2 h3
    exact J.less (kc' := 5 * N + 8 * (G - 2)) (ks' := 491 * N + 20013 * (G - 2)) (by omega) (by omega) (K _ (G - 2) _ (Or.inl ⟨hR, by rw [hgi]; exact hy1⟩) hW2 (hx.mono he.1) (hm.mono he.1) hg2 (hr.own he (jdis_of rfl)) ⟨hTL, hc.2.1.keep he (jdis_of rfl), hTF hc.2.2.1, hc.2.2.2.keep he (jdis_of rfl)⟩ (by omega))
  | some t =>
    refine Jw_callV2 (q9 := (RX6, TX6, 7)) moX6_walks jw_ml_L_60 jw_im_X6_walks jw_se_X6_walks hx rfl rfl dL_law_518 (w_X6_walks_zold 999 _ ax _ _ fs tl f j A t (by decide) hW hx hO hF hA hgj hj c1 c2 c3 c4 hf hty4 hA5 (by omega) (by omega)) (by decide) (Nat.zero_le _) (Nat.zero_le _) (Nat.le_of_ble_eq_true rfl) (fun r V3 h => ?_)
    obtain ⟨⟨hW2, he, y1, rfl, -, -, hy1⟩, hTL⟩ := h
    exact J.less (kc' := 5 * N + 8 * (G)) (ks' := 491 * N + 20013 * (G)) (by omega) (by omega) (K _ (G) _ (Or.inl ⟨hR, by rw [hgi]; exact hy1⟩) hW2 (hx.mono he.1) (hm.mono he.1) (hg.keep he (jnot_of rfl) (jnot_of rfl)) (hr.own he (jdis_of rfl)) ⟨hTL, hc.2.1.keep he (jdis_of rfl), hc.2.2.1.keep he (jdis_of rfl), hc.2.2.2.keep he (jdis_of rfl)⟩ (Nat.le_refl _))
set_option maxRecDepth 100000 in
set_option maxHeartbeats 4000000 in
theorem lawc_12 {tS : jTS} {b L : Nat} {xs : Nat → Int32} (hs9 : tS.2 = some (b, L, xs)) (V : jH) (ax am : Nat) (i : Int32) (G N : Nat) {Q : Option Value → jH → Prop} (hW : WT V) (hx : jis V (.inr 4) ax) (hm : jis V (.inr 5) am) (hg : jphi V ax G) (hr : jRL V ax am) (hc : jTX V ax am) (hin1 : vp_in (i + 1) L) (hin2 : vp_in (i + 2) L) (hin3 : vp_in (i + 3) L) (kk : ∀ (V2 : jH) (G2 : Nat), WT V2 → jis V2 (.inr 4) ax → jis V2 (.inr 5) am → jphi V2 ax G2 → jRL V2 ax am → jTX V2 ax am → G2 ≤ G → J tS mL_law 1000 908 [some (.ref b), some (.ref ax), some (.ref am), some (.int i)] [] V2 (5 * N + 8 * G2) (491 * N + 20013 * G2) Q) : J tS mL_law 1000 540 [some (.ref b), some (.ref ax), some (.ref am), some (.int i)] [] V (5 * (N + 1) + 8 * G) (491 * (N + 1) + 20013 * G) Q := by
  refine J_aload_n dL_law_540 rfl ?_
  refine J_aload_n dL_law_541 rfl ?_
  refine J_iload_n dL_law_542 rfl ?_
  refine J_iconst (v := 1) dL_law_543 (by decide) ?_
  refine J_iadd dL_law_544 ?_
  refine J_sld hs9 dL_law_545 hin1 ?_
  refine J_aload_n dL_law_546 rfl ?_
  refine J_iload_n dL_law_547 rfl ?_
  refine J_iconst (v := 2) dL_law_548 (by decide) ?_
  refine J_iadd dL_law_549 ?_
  refine J_sld hs9 dL_law_550 hin2 ?_
  have K : ∀ (V2 : jH) (G2 : Nat) (y1 : Int64), (((0 ≤ (xs (i + 1).toNatClampNeg).toInt ∧ (xs (i + 1).toNatClampNeg).toInt ≤ 3 ∧ 0 ≤ (xs (i + 2).toNatClampNeg).toInt ∧ (xs (i + 2).toNatClampNeg).toInt ≤ 20) ∧ ((jTT (xs (i + 1).toNatClampNeg).toInt (xs (i + 2).toNatClampNeg).toInt.toNat jL0 ≤ 600000 ∧ y1 = (jrq (xs (i + 1).toNatClampNeg).toInt (xs (i + 2).toNatClampNeg).toInt.toNat).2.1) ∨ (600000 < jTT (xs (i + 1).toNatClampNeg).toInt (xs (i + 2).toNatClampNeg).toInt.toNat jL0 ∧ y1 = -5))) ∨ (¬ (0 ≤ (xs (i + 1).toNatClampNeg).toInt ∧ (xs (i + 1).toNatClampNeg).toInt ≤ 3 ∧ 0 ≤ (xs (i + 2).toNatClampNeg).toInt ∧ (xs (i + 2).toNatClampNeg).toInt ≤ 20) ∧ y1 = -2)) → WT V2 → jis V2 (.inr 4) ax → jis V2 (.inr 5) am → jphi V2 ax G2 → jRL V2 ax am → jTX V2 ax am → G2 ≤ G → J tS mL_law 1000 554 [some (.ref b), some (.ref ax), some (.ref am), some (.int i)] [.long y1] V2 (5 * N + 8 * G2) (491 * N + 20013 * G2) Q := by
    intro V2 G2 y1 hy1 hW hx hm hg hr hc hG2
    refine J_pop2L dL_law_554 rfl ?_
    refine J_aload_n dL_law_555 rfl ?_
    refine J_aload_n dL_law_556 rfl ?_
    refine J_iload_n dL_law_557 rfl ?_
    refine J_iconst (v := 1) dL_law_558 (by decide) ?_
    refine J_iadd dL_law_559 ?_
    refine J_sld hs9 dL_law_560 hin1 ?_
    refine J_aload_n dL_law_561 rfl ?_
    refine J_iload_n dL_law_562 rfl ?_
    refine J_iconst (v := 2) dL_law_563 (by decide) ?_
    refine J_iadd dL_law_564 ?_
    refine J_sld hs9 dL_law_565 hin2 ?_
    refine Jw_callV2 (q9 := (RX7, TX7, 34)) moX7_squares jw_ml_L_68 jw_im_X7_squares jw_se_X7_squares hm rfl rfl dL_law_566 (w_X7_squares_z 999 _ am (xs (i + 1).toNatClampNeg) (xs (i + 2).toNatClampNeg) (by decide) hW hm hc.2.1) (by decide) (Nat.zero_le _) (Nat.zero_le _) (Nat.le_of_ble_eq_true rfl) (fun r V3 h => ?_)
    obtain ⟨⟨hW, he, y2, rfl, hy2⟩, hRM, hkp⟩ := h
    have hx := hx.mono he.1
    have hm := hm.mono he.1
    have hg := hg.keep he (jnot_of rfl) (jnot_of rfl)
    have hc : jTX V3 ax am := ⟨hc.1.keep he (jdis_of rfl), hRM, hc.2.2.1.keep he (jdis_of rfl), hc.2.2.2.keep he (jdis_of rfl)⟩
    have hr := hr.ref he hkp (by decide) (jdis_of rfl)
    have hyL : y1 = y2 := by
      rcases hy1 with ⟨p1, p2⟩ | ⟨p1, p2⟩
      · rcases hy2 with ⟨p3, p4⟩ | ⟨p3, p4⟩
        · rcases p2 with ⟨p5, p6⟩ | ⟨p5, p6⟩
          · rcases p4 with ⟨p7, p8⟩ | ⟨p7, p8⟩
            · exact p6.trans p8.symm
            · exact absurd p7 (by omega)
          · rcases p4 with ⟨p7, p8⟩ | ⟨p7, p8⟩
            · exact absurd p7 (by omega)
            · exact p6.trans p8.symm
        · exact absurd p1 p3
      · rcases hy2 with ⟨p3, p4⟩ | ⟨p3, p4⟩
        · exact absurd p3 p1
        · exact p2.trans p4.symm
    refine J_pop2L dL_law_569 rfl ?_
    refine J_goto (tgt := 908) dL_law_570 (by decide) ?_
    exact J.less (kc' := 5 * N + 8 * G2) (ks' := 491 * N + 20013 * G2) (by omega) (by omega) (kk _ G2 hW hx hm hg hr hc hG2)
  by_cases c1 : (xs (i + 1).toNatClampNeg) < 0
  · refine Jw_callV2 (q9 := (RX6, TX6, 7)) moX6_squares jw_ml_L_64 jw_im_X6_squares jw_se_X6_squares hx rfl rfl dL_law_551 (w_X6_squares_zbad 999 _ ax _ _ (by decide) hW hx (Or.inl c1)) (by decide) (Nat.zero_le _) (Nat.zero_le _) (Nat.le_of_ble_eq_true rfl) (fun r V3 h => ?_)
    obtain ⟨⟨y1, rfl, hy1⟩, hE⟩ := h
    have hE := hE.symm
    subst hE
    exact J.less (kc' := 5 * N + 8 * (G)) (ks' := 491 * N + 20013 * (G)) (by omega) (by omega) (K _ (G) _ (Or.inr ⟨(fun q => by rw [jlt] at c1; have q9 : (0 : Int32).toInt = 0 := rfl; omega), hy1⟩) hW hx hm hg hr hc (Nat.le_refl _))
  by_cases c2 : Int32.ofNat 4 ≤ (xs (i + 1).toNatClampNeg)
  · refine Jw_callV2 (q9 := (RX6, TX6, 7)) moX6_squares jw_ml_L_64 jw_im_X6_squares jw_se_X6_squares hx rfl rfl dL_law_551 (w_X6_squares_zbad 999 _ ax _ _ (by decide) hW hx (Or.inr (Or.inl c2))) (by decide) (Nat.zero_le _) (Nat.zero_le _) (Nat.le_of_ble_eq_true rfl) (fun r V3 h => ?_)
    obtain ⟨⟨y1, rfl, hy1⟩, hE⟩ := h
    have hE := hE.symm
    subst hE
    exact J.less (kc' := 5 * N + 8 * (G)) (ks' := 491 * N + 20013 * (G)) (by omega) (by omega) (K _ (G) _ (Or.inr ⟨(fun q => by rw [jle] at c2; have q9 : (Int32.ofNat 4).toInt = 4 := rfl; omega), hy1⟩) hW hx hm hg hr hc (Nat.le_refl _))
  by_cases c3 : (xs (i + 2).toNatClampNeg) < 0
  · refine Jw_callV2 (q9 := (RX6, TX6, 7)) moX6_squares jw_ml_L_64 jw_im_X6_squares jw_se_X6_squares hx rfl rfl dL_law_551 (w_X6_squares_zbad 999 _ ax _ _ (by decide) hW hx (Or.inr (Or.inr (Or.inl c3)))) (by decide) (Nat.zero_le _) (Nat.zero_le _) (Nat.le_of_ble_eq_true rfl) (fun r V3 h => ?_)
    obtain ⟨⟨y1, rfl, hy1⟩, hE⟩ := h
    have hE := hE.symm
    subst hE
    exact J.less (kc' := 5 * N + 8 * (G)) (ks' := 491 * N + 20013 * (G)) (by omega) (by omega) (K _ (G) _ (Or.inr ⟨(fun q => by rw [jlt] at c3; have q9 : (0 : Int32).toInt = 0 := rfl; omega), hy1⟩) hW hx hm hg hr hc (Nat.le_refl _))
  by_cases c4 : (xs (i + 2).toNatClampNeg) ≤ 20
  rotate_left
  · refine Jw_callV2 (q9 := (RX6, TX6, 7)) moX6_squares jw_ml_L_64 jw_im_X6_squares jw_se_X6_squares hx rfl rfl dL_law_551 (w_X6_squares_zbad 999 _ ax _ _ (by decide) hW hx (Or.inr (Or.inr (Or.inr c4)))) (by decide) (Nat.zero_le _) (Nat.zero_le _) (Nat.le_of_ble_eq_true rfl) (fun r V3 h => ?_)
    obtain ⟨⟨y1, rfl, hy1⟩, hE⟩ := h
    have hE := hE.symm
    subst hE
    exact J.less (kc' := 5 * N + 8 * (G)) (ks' := 491 * N + 20013 * (G)) (by omega) (by omega) (K _ (G) _ (Or.inr ⟨(fun q => by rw [jle] at c4; have q9 : (20 : Int32).toInt = 20 := rfl; omega), hy1⟩) hW hx hm hg hr hc (Nat.le_refl _))
  have hR : (0 ≤ (xs (i + 1).toNatClampNeg).toInt ∧ (xs (i + 1).toNatClampNeg).toInt ≤ 3 ∧ 0 ≤ (xs (i + 2).toNatClampNeg).toInt ∧ (xs (i + 2).toNatClampNeg).toInt ≤ 20) := by
    have c1i := c1
    have c2i := c2
    have c3i := c3
    have c4i := c4
    rw [jlt] at c1i c3i
    rw [jle] at c2i c4i
    have q9 : (0 : Int32).toInt = 0 := rfl
    have q8 : (Int32.ofNat 4).toInt = 4 := rfl
    have q7 : (0 : Int32).toInt = 0 := rfl
    have q6 : (20 : Int32).toInt = 20 := rfl
    omega
  obtain ⟨fs, tl, f, g, hO, hF, hA, hgs, hsum⟩ := id hg
  obtain ⟨j, hj, hgj⟩ := vp_in_of (vp_in_g c1 c2 (by decide)) (by decide)
  obtain ⟨fs8, tl8, f8, A, v1, v2, v3, hty4, hA5⟩ := id hc.1
  cases hO.symm.trans v1
  cases hF.symm.trans v2
  cases hA.symm.trans v3
  have hgi : (xs (i + 1).toNatClampNeg).toInt = (j : Int) := by rw [hgj]; exact nI_toInt (by omega)
  cases hf : f j with
  | none =>
    have hroom := jg_none hgs hsum hj hf
    refine Jw_callV2 (q9 := (RX6, TX6, 7)) moX6_squares jw_ml_L_64 jw_im_X6_squares jw_se_X6_squares hx rfl rfl dL_law_551 (w_X6_squares_znew 999 _ ax _ _ fs tl f j A (by decide) hW hx hO hF hA hgj hj c1 c2 c3 c4 hf hty4 hA5 (by omega) (by omega)) (by decide) (by omega) (by omega) (Nat.le_of_ble_eq_true rfl) (fun r V3 h => ?_)
    obtain ⟨⟨hW2, he, y1, rfl, hy1⟩, hTL, ⟨f2, hA2, h2, h3⟩, hTF⟩ := h
    obtain ⟨hG2, hg2⟩ := jphi.fresh hO hF hA2 hgs hsum he.1 (jle9.of he (jnot_of rfl)) hW2 hj hf h2 h3
    exact J.less (kc' := 5 * N + 8 * (G - 2)) (ks' := 491 * N + 20013 * (G - 2)) (by omega) (by omega) (K _ (G - 2) _ (Or.inl ⟨hR, by rw [hgi]; exact hy1⟩) hW2 (hx.mono he.1) (hm.mono he.1) hg2 (hr.own he (jdis_of rfl)) ⟨hTL, hc.2.1.keep he (jdis_of rfl), hTF hc.2.2.1, hc.2.2.2.keep he (jdis_of rfl)⟩ (by omega))
  | some t =>
    refine Jw_callV2 (q9 := (RX6, TX6, 7)) moX6_squares jw_ml_L_64 jw_im_X6_squares jw_se_X6_squares hx rfl rfl dL_law_551 (w_X6_squares_zold 999 _ ax _ _ fs tl f j A t (by decide) hW hx hO hF hA hgj hj c1 c2 c3 c4 hf hty4 hA5 (by omega) (by omega)) (by decide) (Nat.zero_le _) (Nat.zero_le _) (Nat.le_of_ble_eq_true rfl) (fun r V3 h => ?_)
    obtain ⟨⟨hW2, he, y1, rfl, hy1⟩, hTL⟩ := h
    exact J.less (kc' := 5 * N + 8 * (G)) (ks' := 491 * N + 20013 * (G)) (by omega) (by omega) (K _ (G) _ (Or.inl ⟨hR, by rw [hgi]; exact hy1⟩) hW2 (hx.mono he.1) (hm.mono he.1) (hg.keep he (jnot_of rfl) (jnot_of rfl)) (hr.own he (jdis_of rfl)) ⟨hTL, hc.2.1.keep he (jdis_of rfl), hc.2.2.1.keep he (jdis_of rfl), hc.2.2.2.keep he (jdis_of rfl)⟩ (Nat.le_refl _))
set_option maxRecDepth 100000 in
set_option maxHeartbeats 4000000 in
theorem lawc_13 {tS : jTS} {b L : Nat} {xs : Nat → Int32} (hs9 : tS.2 = some (b, L, xs)) (V : jH) (ax am : Nat) (i : Int32) (G N : Nat) {Q : Option Value → jH → Prop} (hW : WT V) (hx : jis V (.inr 4) ax) (hm : jis V (.inr 5) am) (hg : jphi V ax G) (hr : jRL V ax am) (hc : jTX V ax am) (hin1 : vp_in (i + 1) L) (hin2 : vp_in (i + 2) L) (hin3 : vp_in (i + 3) L) (kk : ∀ (V2 : jH) (G2 : Nat), WT V2 → jis V2 (.inr 4) ax → jis V2 (.inr 5) am → jphi V2 ax G2 → jRL V2 ax am → jTX V2 ax am → G2 ≤ G → J tS mL_law 1000 908 [some (.ref b), some (.ref ax), some (.ref am), some (.int i)] [] V2 (5 * N + 8 * G2) (491 * N + 20013 * G2) Q) : J tS mL_law 1000 573 [some (.ref b), some (.ref ax), some (.ref am), some (.int i)] [] V (5 * (N + 1) + 8 * G) (491 * (N + 1) + 20013 * G) Q := by
  refine J_aload_n dL_law_573 rfl ?_
  refine J_aload_n dL_law_574 rfl ?_
  refine J_iload_n dL_law_575 rfl ?_
  refine J_iconst (v := 1) dL_law_576 (by decide) ?_
  refine J_iadd dL_law_577 ?_
  refine J_sld hs9 dL_law_578 hin1 ?_
  refine J_aload_n dL_law_579 rfl ?_
  refine J_iload_n dL_law_580 rfl ?_
  refine J_iconst (v := 2) dL_law_581 (by decide) ?_
  refine J_iadd dL_law_582 ?_
  refine J_sld hs9 dL_law_583 hin2 ?_
  have K : ∀ (V2 : jH) (G2 : Nat) (y1 : Int32), (((0 ≤ (xs (i + 1).toNatClampNeg).toInt ∧ (xs (i + 1).toNatClampNeg).toInt ≤ 3 ∧ 3 ≤ (xs (i + 2).toNatClampNeg).toInt ∧ (xs (i + 2).toNatClampNeg).toInt ≤ 20) ∧ ((jTT (xs (i + 1).toNatClampNeg).toInt ((xs (i + 2).toNatClampNeg).toInt - 1).toNat jL0 ≤ 600000 ∧ y1 = (jrq (xs (i + 1).toNatClampNeg).toInt ((xs (i + 2).toNatClampNeg).toInt - 1).toNat).2.2.1) ∨ (600000 < jTT (xs (i + 1).toNatClampNeg).toInt ((xs (i + 2).toNatClampNeg).toInt - 1).toNat jL0 ∧ y1.toInt = -5))) ∨ (¬ (0 ≤ (xs (i + 1).toNatClampNeg).toInt ∧ (xs (i + 1).toNatClampNeg).toInt ≤ 3 ∧ 3 ≤ (xs (i + 2).toNatClampNeg).toInt ∧ (xs (i + 2).toNatClampNeg).toInt ≤ 20) ∧ y1.toInt = -2)) → WT V2 → jis V2 (.inr 4) ax → jis V2 (.inr 5) am → jphi V2 ax G2 → jRL V2 ax am → jTX V2 ax am → G2 ≤ G → J tS mL_law 1000 587 [some (.ref b), some (.ref ax), some (.ref am), some (.int i)] [.int y1] V2 (5 * N + 8 * G2) (491 * N + 20013 * G2) Q := by
    intro V2 G2 y1 hy1 hW hx hm hg hr hc hG2
    refine J_pop dL_law_587 rfl ?_
    refine J_aload_n dL_law_588 rfl ?_
    refine J_aload_n dL_law_589 rfl ?_
    refine J_iload_n dL_law_590 rfl ?_
    refine J_iconst (v := 1) dL_law_591 (by decide) ?_
    refine J_iadd dL_law_592 ?_
    refine J_sld hs9 dL_law_593 hin1 ?_
    refine J_aload_n dL_law_594 rfl ?_
    refine J_iload_n dL_law_595 rfl ?_
    refine J_iconst (v := 2) dL_law_596 (by decide) ?_
    refine J_iadd dL_law_597 ?_
    refine J_sld hs9 dL_law_598 hin2 ?_
    refine Jw_callV2 (q9 := (RX7, TX7, 34)) moX7_rings jw_ml_L_72 jw_im_X7_rings jw_se_X7_rings hm rfl rfl dL_law_599 (w_X7_rings_z 999 _ am (xs (i + 1).toNatClampNeg) (xs (i + 2).toNatClampNeg) (by decide) hW hm hc.2.1) (by decide) (Nat.zero_le _) (Nat.zero_le _) (Nat.le_of_ble_eq_true rfl) (fun r V3 h => ?_)
    obtain ⟨⟨hW, he, y2, rfl, -, -, hy2⟩, hRM, hkp⟩ := h
    have hx := hx.mono he.1
    have hm := hm.mono he.1
    have hg := hg.keep he (jnot_of rfl) (jnot_of rfl)
    have hc : jTX V3 ax am := ⟨hc.1.keep he (jdis_of rfl), hRM, hc.2.2.1.keep he (jdis_of rfl), hc.2.2.2.keep he (jdis_of rfl)⟩
    have hr := hr.ref he hkp (by decide) (jdis_of rfl)
    have hyA : y1.toInt = y2.toInt := by
      rcases hy1 with ⟨p1, p2⟩ | ⟨p1, p2⟩
      · rcases hy2 with ⟨p3, p4⟩ | ⟨p3, p4⟩
        · rcases p2 with ⟨p5, p6⟩ | ⟨p5, p6⟩
          · rcases p4 with ⟨p7, p8⟩ | ⟨p7, p8⟩
            · exact congrArg Int32.toInt (p6.trans p8.symm)
            · exact absurd p7 (by omega)
          · rcases p4 with ⟨p7, p8⟩ | ⟨p7, p8⟩
            · exact absurd p7 (by omega)
            · exact p6.trans p8.symm
        · exact absurd p1 p3
      · rcases hy2 with ⟨p3, p4⟩ | ⟨p3, p4⟩
        · exact absurd p3 p1
        · exact p2.trans p4.symm
    refine J_pop dL_law_602 rfl ?_
    refine J_goto (tgt := 908) dL_law_603 (by decide) ?_
    exact J.less (kc' := 5 * N + 8 * G2) (ks' := 491 * N + 20013 * G2) (by omega) (by omega) (kk _ G2 hW hx hm hg hr hc hG2)
  by_cases c1 : (xs (i + 1).toNatClampNeg) < 0
  · refine Jw_callV2 (q9 := (RX6, TX6, 7)) moX6_rings jw_ml_L_69 jw_im_X6_rings jw_se_X6_rings hx rfl rfl dL_law_584 (w_X6_rings_zbad 999 _ ax _ _ (by decide) hW hx (Or.inl c1)) (by decide) (Nat.zero_le _) (Nat.zero_le _) (Nat.le_of_ble_eq_true rfl) (fun r V3 h => ?_)
    obtain ⟨⟨y1, rfl, -, -, hy1⟩, hE⟩ := h
    have hE := hE.symm
    subst hE
    exact J.less (kc' := 5 * N + 8 * (G)) (ks' := 491 * N + 20013 * (G)) (by omega) (by omega) (K _ (G) _ (Or.inr ⟨(fun q => by rw [jlt] at c1; have q9 : (0 : Int32).toInt = 0 := rfl; omega), hy1⟩) hW hx hm hg hr hc (Nat.le_refl _))
  by_cases c2 : Int32.ofNat 4 ≤ (xs (i + 1).toNatClampNeg)
  · refine Jw_callV2 (q9 := (RX6, TX6, 7)) moX6_rings jw_ml_L_69 jw_im_X6_rings jw_se_X6_rings hx rfl rfl dL_law_584 (w_X6_rings_zbad 999 _ ax _ _ (by decide) hW hx (Or.inr (Or.inl c2))) (by decide) (Nat.zero_le _) (Nat.zero_le _) (Nat.le_of_ble_eq_true rfl) (fun r V3 h => ?_)
    obtain ⟨⟨y1, rfl, -, -, hy1⟩, hE⟩ := h
    have hE := hE.symm
    subst hE
    exact J.less (kc' := 5 * N + 8 * (G)) (ks' := 491 * N + 20013 * (G)) (by omega) (by omega) (K _ (G) _ (Or.inr ⟨(fun q => by rw [jle] at c2; have q9 : (Int32.ofNat 4).toInt = 4 := rfl; omega), hy1⟩) hW hx hm hg hr hc (Nat.le_refl _))
  by_cases c3 : (xs (i + 2).toNatClampNeg) < 3
  · refine Jw_callV2 (q9 := (RX6, TX6, 7)) moX6_rings jw_ml_L_69 jw_im_X6_rings jw_se_X6_rings hx rfl rfl dL_law_584 (w_X6_rings_zbad 999 _ ax _ _ (by decide) hW hx (Or.inr (Or.inr (Or.inl c3)))) (by decide) (Nat.zero_le _) (Nat.zero_le _) (Nat.le_of_ble_eq_true rfl) (fun r V3 h => ?_)
    obtain ⟨⟨y1, rfl, -, -, hy1⟩, hE⟩ := h
    have hE := hE.symm
    subst hE
    exact J.less (kc' := 5 * N + 8 * (G)) (ks' := 491 * N + 20013 * (G)) (by omega) (by omega) (K _ (G) _ (Or.inr ⟨(fun q => by rw [jlt] at c3; have q9 : (3 : Int32).toInt = 3 := rfl; omega), hy1⟩) hW hx hm hg hr hc (Nat.le_refl _))
  by_cases c4 : (xs (i + 2).toNatClampNeg) ≤ 20
  rotate_left
  · refine Jw_callV2 (q9 := (RX6, TX6, 7)) moX6_rings jw_ml_L_69 jw_im_X6_rings jw_se_X6_rings hx rfl rfl dL_law_584 (w_X6_rings_zbad 999 _ ax _ _ (by decide) hW hx (Or.inr (Or.inr (Or.inr c4)))) (by decide) (Nat.zero_le _) (Nat.zero_le _) (Nat.le_of_ble_eq_true rfl) (fun r V3 h => ?_)
    obtain ⟨⟨y1, rfl, -, -, hy1⟩, hE⟩ := h
    have hE := hE.symm
    subst hE
    exact J.less (kc' := 5 * N + 8 * (G)) (ks' := 491 * N + 20013 * (G)) (by omega) (by omega) (K _ (G) _ (Or.inr ⟨(fun q => by rw [jle] at c4; have q9 : (20 : Int32).toInt = 20 := rfl; omega), hy1⟩) hW hx hm hg hr hc (Nat.le_refl _))
  have hR : (0 ≤ (xs (i + 1).toNatClampNeg).toInt ∧ (xs (i + 1).toNatClampNeg).toInt ≤ 3 ∧ 3 ≤ (xs (i + 2).toNatClampNeg).toInt ∧ (xs (i + 2).toNatClampNeg).toInt ≤ 20) := by
    have c1i := c1
    have c2i := c2
    have c3i := c3
    have c4i := c4
    rw [jlt] at c1i c3i
    rw [jle] at c2i c4i
    have q9 : (0 : Int32).toInt = 0 := rfl
    have q8 : (Int32.ofNat 4).toInt = 4 := rfl
    have q7 : (3 : Int32).toInt = 3 := rfl
    have q6 : (20 : Int32).toInt = 20 := rfl
    omega
  obtain ⟨fs, tl, f, g, hO, hF, hA, hgs, hsum⟩ := id hg
  obtain ⟨j, hj, hgj⟩ := vp_in_of (vp_in_g c1 c2 (by decide)) (by decide)
  obtain ⟨fs8, tl8, f8, A, v1, v2, v3, hty4, hA5⟩ := id hc.1
  cases hO.symm.trans v1
  cases hF.symm.trans v2
  cases hA.symm.trans v3
  have hgi : (xs (i + 1).toNatClampNeg).toInt = (j : Int) := by rw [hgj]; exact nI_toInt (by omega)
  cases hf : f j with
  | none =>
    have hroom := jg_none hgs hsum hj hf
    refine Jw_callV2 (q9 := (RX6, TX6, 7)) moX6_rings jw_ml_L_69 jw_im_X6_rings jw_se_X6_rings hx rfl rfl dL_law_584 (w_X6_rings_znew 999 _ ax _ _ fs tl f j A (by decide) hW hx hO hF hA hgj hj c1 c2 c3 c4 hf hty4 hA5 (by omega) (by omega)) (by decide) (by omega) (by omega) (Nat.le_of_ble_eq_true rfl) (fun r V3 h => ?_)
    obtain ⟨⟨hW2, he, y1, rfl, -, -, hy1⟩, hTL, ⟨f2, hA2, h2, h3⟩, hTF⟩ := h
    obtain ⟨hG2, hg2⟩ := jphi.fresh hO hF hA2 hgs hsum he.1 (jle9.of he (jnot_of rfl)) hW2 hj hf h2 h3
    exact J.less (kc' := 5 * N + 8 * (G - 2)) (ks' := 491 * N + 20013 * (G - 2)) (by omega) (by omega) (K _ (G - 2) _ (Or.inl ⟨hR, by rw [hgi]; exact hy1⟩) hW2 (hx.mono he.1) (hm.mono he.1) hg2 (hr.own he (jdis_of rfl)) ⟨hTL, hc.2.1.keep he (jdis_of rfl), hTF hc.2.2.1, hc.2.2.2.keep he (jdis_of rfl)⟩ (by omega))
  | some t =>
    refine Jw_callV2 (q9 := (RX6, TX6, 7)) moX6_rings jw_ml_L_69 jw_im_X6_rings jw_se_X6_rings hx rfl rfl dL_law_584 (w_X6_rings_zold 999 _ ax _ _ fs tl f j A t (by decide) hW hx hO hF hA hgj hj c1 c2 c3 c4 hf hty4 hA5 (by omega) (by omega)) (by decide) (Nat.zero_le _) (Nat.zero_le _) (Nat.le_of_ble_eq_true rfl) (fun r V3 h => ?_)
    obtain ⟨⟨hW2, he, y1, rfl, -, -, hy1⟩, hTL⟩ := h
    exact J.less (kc' := 5 * N + 8 * (G)) (ks' := 491 * N + 20013 * (G)) (by omega) (by omega) (K _ (G) _ (Or.inl ⟨hR, by rw [hgi]; exact hy1⟩) hW2 (hx.mono he.1) (hm.mono he.1) (hg.keep he (jnot_of rfl) (jnot_of rfl)) (hr.own he (jdis_of rfl)) ⟨hTL, hc.2.1.keep he (jdis_of rfl), hc.2.2.1.keep he (jdis_of rfl), hc.2.2.2.keep he (jdis_of rfl)⟩ (Nat.le_refl _))
set_option maxRecDepth 100000 in
set_option maxHeartbeats 4000000 in
theorem lawc_14 {tS : jTS} {b L : Nat} {xs : Nat → Int32} (hs9 : tS.2 = some (b, L, xs)) (V : jH) (ax am : Nat) (i : Int32) (G N : Nat) {Q : Option Value → jH → Prop} (hW : WT V) (hx : jis V (.inr 4) ax) (hm : jis V (.inr 5) am) (hg : jphi V ax G) (hr : jRL V ax am) (hc : jTX V ax am) (hin1 : vp_in (i + 1) L) (hin2 : vp_in (i + 2) L) (hin3 : vp_in (i + 3) L) (kk : ∀ (V2 : jH) (G2 : Nat), WT V2 → jis V2 (.inr 4) ax → jis V2 (.inr 5) am → jphi V2 ax G2 → jRL V2 ax am → jTX V2 ax am → G2 ≤ G → J tS mL_law 1000 908 [some (.ref b), some (.ref ax), some (.ref am), some (.int i)] [] V2 (5 * N + 8 * G2) (491 * N + 20013 * G2) Q) : J tS mL_law 1000 606 [some (.ref b), some (.ref ax), some (.ref am), some (.int i)] [] V (5 * (N + 1) + 8 * G) (491 * (N + 1) + 20013 * G) Q := by
  refine J_aload_n dL_law_606 rfl ?_
  refine J_aload_n dL_law_607 rfl ?_
  refine J_iload_n dL_law_608 rfl ?_
  refine J_iconst (v := 1) dL_law_609 (by decide) ?_
  refine J_iadd dL_law_610 ?_
  refine J_sld hs9 dL_law_611 hin1 ?_
  refine J_aload_n dL_law_612 rfl ?_
  refine J_iload_n dL_law_613 rfl ?_
  refine J_iconst (v := 2) dL_law_614 (by decide) ?_
  refine J_iadd dL_law_615 ?_
  refine J_sld hs9 dL_law_616 hin2 ?_
  have K : ∀ (V2 : jH) (G2 : Nat) (y1 : Int32), (((0 ≤ (xs (i + 1).toNatClampNeg).toInt ∧ (xs (i + 1).toNatClampNeg).toInt ≤ 3 ∧ 1 ≤ (xs (i + 2).toNatClampNeg).toInt ∧ (xs (i + 2).toNatClampNeg).toInt ≤ 20) ∧ ((jTT (xs (i + 1).toNatClampNeg).toInt (xs (i + 2).toNatClampNeg).toInt.toNat jL0 ≤ 600000 ∧ y1 = (jrq (xs (i + 1).toNatClampNeg).toInt (xs (i + 2).toNatClampNeg).toInt.toNat).2.2.2) ∨ (600000 < jTT (xs (i + 1).toNatClampNeg).toInt (xs (i + 2).toNatClampNeg).toInt.toNat jL0 ∧ y1.toInt = -5))) ∨ (¬ (0 ≤ (xs (i + 1).toNatClampNeg).toInt ∧ (xs (i + 1).toNatClampNeg).toInt ≤ 3 ∧ 1 ≤ (xs (i + 2).toNatClampNeg).toInt ∧ (xs (i + 2).toNatClampNeg).toInt ≤ 20) ∧ y1.toInt = -2)) → WT V2 → jis V2 (.inr 4) ax → jis V2 (.inr 5) am → jphi V2 ax G2 → jRL V2 ax am → jTX V2 ax am → G2 ≤ G → J tS mL_law 1000 620 [some (.ref b), some (.ref ax), some (.ref am), some (.int i)] [.int y1] V2 (5 * N + 8 * G2) (491 * N + 20013 * G2) Q := by
    intro V2 G2 y1 hy1 hW hx hm hg hr hc hG2
    refine J_pop dL_law_620 rfl ?_
    refine J_aload_n dL_law_621 rfl ?_
    refine J_aload_n dL_law_622 rfl ?_
    refine J_iload_n dL_law_623 rfl ?_
    refine J_iconst (v := 1) dL_law_624 (by decide) ?_
    refine J_iadd dL_law_625 ?_
    refine J_sld hs9 dL_law_626 hin1 ?_
    refine J_aload_n dL_law_627 rfl ?_
    refine J_iload_n dL_law_628 rfl ?_
    refine J_iconst (v := 2) dL_law_629 (by decide) ?_
    refine J_iadd dL_law_630 ?_
    refine J_sld hs9 dL_law_631 hin2 ?_
    refine Jw_callV2 (q9 := (RX7, TX7, 34)) moX7_bridges jw_ml_L_76 jw_im_X7_bridges jw_se_X7_bridges hm rfl rfl dL_law_632 (w_X7_bridges_z 999 _ am (xs (i + 1).toNatClampNeg) (xs (i + 2).toNatClampNeg) (by decide) hW hm hc.2.1) (by decide) (Nat.zero_le _) (Nat.zero_le _) (Nat.le_of_ble_eq_true rfl) (fun r V3 h => ?_)
    obtain ⟨⟨hW, he, y2, rfl, -, -, hy2⟩, hRM, hkp⟩ := h
    have hx := hx.mono he.1
    have hm := hm.mono he.1
    have hg := hg.keep he (jnot_of rfl) (jnot_of rfl)
    have hc : jTX V3 ax am := ⟨hc.1.keep he (jdis_of rfl), hRM, hc.2.2.1.keep he (jdis_of rfl), hc.2.2.2.keep he (jdis_of rfl)⟩
    have hr := hr.ref he hkp (by decide) (jdis_of rfl)
    have hyA : y1.toInt = y2.toInt := by
      rcases hy1 with ⟨p1, p2⟩ | ⟨p1, p2⟩
      · rcases hy2 with ⟨p3, p4⟩ | ⟨p3, p4⟩
        · rcases p2 with ⟨p5, p6⟩ | ⟨p5, p6⟩
          · rcases p4 with ⟨p7, p8⟩ | ⟨p7, p8⟩
            · exact congrArg Int32.toInt (p6.trans p8.symm)
            · exact absurd p7 (by omega)
          · rcases p4 with ⟨p7, p8⟩ | ⟨p7, p8⟩
            · exact absurd p7 (by omega)
            · exact p6.trans p8.symm
        · exact absurd p1 p3
      · rcases hy2 with ⟨p3, p4⟩ | ⟨p3, p4⟩
        · exact absurd p3 p1
        · exact p2.trans p4.symm
    refine J_pop dL_law_635 rfl ?_
    refine J_goto (tgt := 908) dL_law_636 (by decide) ?_
    exact J.less (kc' := 5 * N + 8 * G2) (ks' := 491 * N + 20013 * G2) (by omega) (by omega) (kk _ G2 hW hx hm hg hr hc hG2)
  by_cases c1 : (xs (i + 1).toNatClampNeg) < 0
  · refine Jw_callV2 (q9 := (RX6, TX6, 7)) moX6_bridges jw_ml_L_73 jw_im_X6_bridges jw_se_X6_bridges hx rfl rfl dL_law_617 (w_X6_bridges_zbad 999 _ ax _ _ (by decide) hW hx (Or.inl c1)) (by decide) (Nat.zero_le _) (Nat.zero_le _) (Nat.le_of_ble_eq_true rfl) (fun r V3 h => ?_)
    obtain ⟨⟨y1, rfl, -, -, hy1⟩, hE⟩ := h
    have hE := hE.symm
    subst hE
    exact J.less (kc' := 5 * N + 8 * (G)) (ks' := 491 * N + 20013 * (G)) (by omega) (by omega) (K _ (G) _ (Or.inr ⟨(fun q => by rw [jlt] at c1; have q9 : (0 : Int32).toInt = 0 := rfl; omega), hy1⟩) hW hx hm hg hr hc (Nat.le_refl _))
  by_cases c2 : Int32.ofNat 4 ≤ (xs (i + 1).toNatClampNeg)
  · refine Jw_callV2 (q9 := (RX6, TX6, 7)) moX6_bridges jw_ml_L_73 jw_im_X6_bridges jw_se_X6_bridges hx rfl rfl dL_law_617 (w_X6_bridges_zbad 999 _ ax _ _ (by decide) hW hx (Or.inr (Or.inl c2))) (by decide) (Nat.zero_le _) (Nat.zero_le _) (Nat.le_of_ble_eq_true rfl) (fun r V3 h => ?_)
    obtain ⟨⟨y1, rfl, -, -, hy1⟩, hE⟩ := h
    have hE := hE.symm
    subst hE
    exact J.less (kc' := 5 * N + 8 * (G)) (ks' := 491 * N + 20013 * (G)) (by omega) (by omega) (K _ (G) _ (Or.inr ⟨(fun q => by rw [jle] at c2; have q9 : (Int32.ofNat 4).toInt = 4 := rfl; omega), hy1⟩) hW hx hm hg hr hc (Nat.le_refl _))
  by_cases c3 : (xs (i + 2).toNatClampNeg) < 1
  · refine Jw_callV2 (q9 := (RX6, TX6, 7)) moX6_bridges jw_ml_L_73 jw_im_X6_bridges jw_se_X6_bridges hx rfl rfl dL_law_617 (w_X6_bridges_zbad 999 _ ax _ _ (by decide) hW hx (Or.inr (Or.inr (Or.inl c3)))) (by decide) (Nat.zero_le _) (Nat.zero_le _) (Nat.le_of_ble_eq_true rfl) (fun r V3 h => ?_)
    obtain ⟨⟨y1, rfl, -, -, hy1⟩, hE⟩ := h
    have hE := hE.symm
    subst hE
    exact J.less (kc' := 5 * N + 8 * (G)) (ks' := 491 * N + 20013 * (G)) (by omega) (by omega) (K _ (G) _ (Or.inr ⟨(fun q => by rw [jlt] at c3; have q9 : (1 : Int32).toInt = 1 := rfl; omega), hy1⟩) hW hx hm hg hr hc (Nat.le_refl _))
  by_cases c4 : (xs (i + 2).toNatClampNeg) ≤ 20
  rotate_left
  · refine Jw_callV2 (q9 := (RX6, TX6, 7)) moX6_bridges jw_ml_L_73 jw_im_X6_bridges jw_se_X6_bridges hx rfl rfl dL_law_617 (w_X6_bridges_zbad 999 _ ax _ _ (by decide) hW hx (Or.inr (Or.inr (Or.inr c4)))) (by decide) (Nat.zero_le _) (Nat.zero_le _) (Nat.le_of_ble_eq_true rfl) (fun r V3 h => ?_)
    obtain ⟨⟨y1, rfl, -, -, hy1⟩, hE⟩ := h
    have hE := hE.symm
    subst hE
    exact J.less (kc' := 5 * N + 8 * (G)) (ks' := 491 * N + 20013 * (G)) (by omega) (by omega) (K _ (G) _ (Or.inr ⟨(fun q => by rw [jle] at c4; have q9 : (20 : Int32).toInt = 20 := rfl; omega), hy1⟩) hW hx hm hg hr hc (Nat.le_refl _))
  have hR : (0 ≤ (xs (i + 1).toNatClampNeg).toInt ∧ (xs (i + 1).toNatClampNeg).toInt ≤ 3 ∧ 1 ≤ (xs (i + 2).toNatClampNeg).toInt ∧ (xs (i + 2).toNatClampNeg).toInt ≤ 20) := by
    have c1i := c1
    have c2i := c2
    have c3i := c3
    have c4i := c4
    rw [jlt] at c1i c3i
    rw [jle] at c2i c4i
    have q9 : (0 : Int32).toInt = 0 := rfl
    have q8 : (Int32.ofNat 4).toInt = 4 := rfl
    have q7 : (1 : Int32).toInt = 1 := rfl
    have q6 : (20 : Int32).toInt = 20 := rfl
    omega
  obtain ⟨fs, tl, f, g, hO, hF, hA, hgs, hsum⟩ := id hg
  obtain ⟨j, hj, hgj⟩ := vp_in_of (vp_in_g c1 c2 (by decide)) (by decide)
  obtain ⟨fs8, tl8, f8, A, v1, v2, v3, hty4, hA5⟩ := id hc.1
  cases hO.symm.trans v1
  cases hF.symm.trans v2
  cases hA.symm.trans v3
  have hgi : (xs (i + 1).toNatClampNeg).toInt = (j : Int) := by rw [hgj]; exact nI_toInt (by omega)
  cases hf : f j with
  | none =>
    have hroom := jg_none hgs hsum hj hf
    refine Jw_callV2 (q9 := (RX6, TX6, 7)) moX6_bridges jw_ml_L_73 jw_im_X6_bridges jw_se_X6_bridges hx rfl rfl dL_law_617 (w_X6_bridges_znew 999 _ ax _ _ fs tl f j A (by decide) hW hx hO hF hA hgj hj c1 c2 c3 c4 hf hty4 hA5 (by omega) (by omega)) (by decide) (by omega) (by omega) (Nat.le_of_ble_eq_true rfl) (fun r V3 h => ?_)
    obtain ⟨⟨hW2, he, y1, rfl, -, -, hy1⟩, hTL, ⟨f2, hA2, h2, h3⟩, hTF⟩ := h
    obtain ⟨hG2, hg2⟩ := jphi.fresh hO hF hA2 hgs hsum he.1 (jle9.of he (jnot_of rfl)) hW2 hj hf h2 h3
    exact J.less (kc' := 5 * N + 8 * (G - 2)) (ks' := 491 * N + 20013 * (G - 2)) (by omega) (by omega) (K _ (G - 2) _ (Or.inl ⟨hR, by rw [hgi]; exact hy1⟩) hW2 (hx.mono he.1) (hm.mono he.1) hg2 (hr.own he (jdis_of rfl)) ⟨hTL, hc.2.1.keep he (jdis_of rfl), hTF hc.2.2.1, hc.2.2.2.keep he (jdis_of rfl)⟩ (by omega))
  | some t =>
    refine Jw_callV2 (q9 := (RX6, TX6, 7)) moX6_bridges jw_ml_L_73 jw_im_X6_bridges jw_se_X6_bridges hx rfl rfl dL_law_617 (w_X6_bridges_zold 999 _ ax _ _ fs tl f j A t (by decide) hW hx hO hF hA hgj hj c1 c2 c3 c4 hf hty4 hA5 (by omega) (by omega)) (by decide) (Nat.zero_le _) (Nat.zero_le _) (Nat.le_of_ble_eq_true rfl) (fun r V3 h => ?_)
    obtain ⟨⟨hW2, he, y1, rfl, -, -, hy1⟩, hTL⟩ := h
    exact J.less (kc' := 5 * N + 8 * (G)) (ks' := 491 * N + 20013 * (G)) (by omega) (by omega) (K _ (G) _ (Or.inl ⟨hR, by rw [hgi]; exact hy1⟩) hW2 (hx.mono he.1) (hm.mono he.1) (hg.keep he (jnot_of rfl) (jnot_of rfl)) (hr.own he (jdis_of rfl)) ⟨hTL, hc.2.1.keep he (jdis_of rfl), hc.2.2.1.keep he (jdis_of rfl), hc.2.2.2.keep he (jdis_of rfl)⟩ (Nat.le_refl _))
set_option maxRecDepth 100000 in
set_option maxHeartbeats 4000000 in
theorem lawc_15 {tS : jTS} {b L : Nat} {xs : Nat → Int32} (hs9 : tS.2 = some (b, L, xs)) (V : jH) (ax am : Nat) (i : Int32) (G N : Nat) {Q : Option Value → jH → Prop} (hW : WT V) (hx : jis V (.inr 4) ax) (hm : jis V (.inr 5) am) (hg : jphi V ax G) (hr : jRL V ax am) (hc : jTX V ax am) (hin1 : vp_in (i + 1) L) (hin2 : vp_in (i + 2) L) (hin3 : vp_in (i + 3) L) (kk : ∀ (V2 : jH) (G2 : Nat), WT V2 → jis V2 (.inr 4) ax → jis V2 (.inr 5) am → jphi V2 ax G2 → jRL V2 ax am → jTX V2 ax am → G2 ≤ G → J tS mL_law 1000 908 [some (.ref b), some (.ref ax), some (.ref am), some (.int i)] [] V2 (5 * N + 8 * G2) (491 * N + 20013 * G2) Q) : J tS mL_law 1000 639 [some (.ref b), some (.ref ax), some (.ref am), some (.int i)] [] V (5 * (N + 1) + 8 * G) (491 * (N + 1) + 20013 * G) Q := by
  refine J_aload_n dL_law_639 rfl ?_
  refine J_aload_n dL_law_640 rfl ?_
  refine J_iload_n dL_law_641 rfl ?_
  refine J_iconst (v := 1) dL_law_642 (by decide) ?_
  refine J_iadd dL_law_643 ?_
  refine J_sld hs9 dL_law_644 hin1 ?_
  refine J_aload_n dL_law_645 rfl ?_
  refine J_iload_n dL_law_646 rfl ?_
  refine J_iconst (v := 2) dL_law_647 (by decide) ?_
  refine J_iadd dL_law_648 ?_
  refine J_sld hs9 dL_law_649 hin2 ?_
  have K : ∀ (V2 : jH) (G2 : Nat) (y1 : Int32), (((0 ≤ (xs (i + 1).toNatClampNeg).toInt ∧ (xs (i + 1).toNatClampNeg).toInt ≤ 3 ∧ 0 ≤ (xs (i + 2).toNatClampNeg).toInt ∧ (xs (i + 2).toNatClampNeg).toInt ≤ 20) ∧ ((7 < (xs (i + 2).toNatClampNeg).toInt ∧ y1.toInt = -2) ∨ ((xs (i + 2).toNatClampNeg).toInt ≤ 7 ∧ (((600000 < jTT (xs (i + 1).toNatClampNeg).toInt (xs (i + 2).toNatClampNeg).toInt.toNat jL0 ∨ 3000 < (jrq (xs (i + 1).toNatClampNeg).toInt (xs (i + 2).toNatClampNeg).toInt.toNat).1) ∧ y1.toInt = -5) ∨ (¬ (600000 < jTT (xs (i + 1).toNatClampNeg).toInt (xs (i + 2).toNatClampNeg).toInt.toNat jL0 ∨ 3000 < (jrq (xs (i + 1).toNatClampNeg).toInt (xs (i + 2).toNatClampNeg).toInt.toNat).1) ∧ y1.toInt = ((jfo (xs (i + 1).toNatClampNeg).toInt (xs (i + 2).toNatClampNeg).toInt.toNat : Nat) : Int)))))) ∨ (¬ (0 ≤ (xs (i + 1).toNatClampNeg).toInt ∧ (xs (i + 1).toNatClampNeg).toInt ≤ 3 ∧ 0 ≤ (xs (i + 2).toNatClampNeg).toInt ∧ (xs (i + 2).toNatClampNeg).toInt ≤ 20) ∧ y1.toInt = -2)) → WT V2 → jis V2 (.inr 4) ax → jis V2 (.inr 5) am → jphi V2 ax G2 → jRL V2 ax am → jTX V2 ax am → G2 ≤ G → J tS mL_law 1000 653 [some (.ref b), some (.ref ax), some (.ref am), some (.int i)] [.int y1] V2 (5 * N + 8 * G2) (491 * N + 20013 * G2) Q := by
    intro V2 G2 y1 hy1 hW hx hm hg hr hc hG2
    refine J_pop dL_law_653 rfl ?_
    refine J_aload_n dL_law_654 rfl ?_
    refine J_aload_n dL_law_655 rfl ?_
    refine J_iload_n dL_law_656 rfl ?_
    refine J_iconst (v := 1) dL_law_657 (by decide) ?_
    refine J_iadd dL_law_658 ?_
    refine J_sld hs9 dL_law_659 hin1 ?_
    refine J_aload_n dL_law_660 rfl ?_
    refine J_iload_n dL_law_661 rfl ?_
    refine J_iconst (v := 2) dL_law_662 (by decide) ?_
    refine J_iadd dL_law_663 ?_
    refine J_sld hs9 dL_law_664 hin2 ?_
    refine Jw_callV2 (q9 := (RX7, TX7, 34)) moX7_forms jw_ml_L_80 jw_im_X7_forms jw_se_X7_forms hm rfl rfl dL_law_665 (w_X7_forms_z 999 _ am (xs (i + 1).toNatClampNeg) (xs (i + 2).toNatClampNeg) (by decide) hW hm hc.2.1 hc.2.2.2) (by decide) (Nat.zero_le _) (Nat.zero_le _) (Nat.le_of_ble_eq_true rfl) (fun r V3 h => ?_)
    obtain ⟨⟨hW, he, y2, rfl, -, -, hy2⟩, hRM, hRF, hkp⟩ := h
    have hx := hx.mono he.1
    have hm := hm.mono he.1
    have hg := hg.keep he (jnot_of rfl) (jnot_of rfl)
    have hc : jTX V3 ax am := ⟨hc.1.keep he (jdis_of rfl), hRM, hc.2.2.1.keep he (jdis_of rfl), hRF⟩
    have hr := hr.ref he hkp (by decide) (jdis_of rfl)
    have hyA : y1.toInt = y2.toInt := by omega
    refine J_pop dL_law_668 rfl ?_
    refine J_goto (tgt := 908) dL_law_669 (by decide) ?_
    exact J.less (kc' := 5 * N + 8 * G2) (ks' := 491 * N + 20013 * G2) (by omega) (by omega) (kk _ G2 hW hx hm hg hr hc hG2)
  by_cases c1 : (xs (i + 1).toNatClampNeg) < 0
  · refine Jw_callV2 (q9 := (RX6, TX6, 7)) moX6_forms jw_ml_L_77 jw_im_X6_forms jw_se_X6_forms hx rfl rfl dL_law_650 (w_X6_forms_zbad 999 _ ax _ _ (by decide) hW hx (Or.inl c1)) (by decide) (Nat.zero_le _) (Nat.zero_le _) (Nat.le_of_ble_eq_true rfl) (fun r V3 h => ?_)
    obtain ⟨⟨y1, rfl, -, -, hy1⟩, hE⟩ := h
    have hE := hE.symm
    subst hE
    exact J.less (kc' := 5 * N + 8 * (G)) (ks' := 491 * N + 20013 * (G)) (by omega) (by omega) (K _ (G) _ (Or.inr ⟨(fun q => by rw [jlt] at c1; have q9 : (0 : Int32).toInt = 0 := rfl; omega), hy1⟩) hW hx hm hg hr hc (Nat.le_refl _))
  by_cases c2 : Int32.ofNat 4 ≤ (xs (i + 1).toNatClampNeg)
  · refine Jw_callV2 (q9 := (RX6, TX6, 7)) moX6_forms jw_ml_L_77 jw_im_X6_forms jw_se_X6_forms hx rfl rfl dL_law_650 (w_X6_forms_zbad 999 _ ax _ _ (by decide) hW hx (Or.inr (Or.inl c2))) (by decide) (Nat.zero_le _) (Nat.zero_le _) (Nat.le_of_ble_eq_true rfl) (fun r V3 h => ?_)
    obtain ⟨⟨y1, rfl, -, -, hy1⟩, hE⟩ := h
    have hE := hE.symm
    subst hE
    exact J.less (kc' := 5 * N + 8 * (G)) (ks' := 491 * N + 20013 * (G)) (by omega) (by omega) (K _ (G) _ (Or.inr ⟨(fun q => by rw [jle] at c2; have q9 : (Int32.ofNat 4).toInt = 4 := rfl; omega), hy1⟩) hW hx hm hg hr hc (Nat.le_refl _))
  by_cases c3 : (xs (i + 2).toNatClampNeg) < 0
  · refine Jw_callV2 (q9 := (RX6, TX6, 7)) moX6_forms jw_ml_L_77 jw_im_X6_forms jw_se_X6_forms hx rfl rfl dL_law_650 (w_X6_forms_zbad 999 _ ax _ _ (by decide) hW hx (Or.inr (Or.inr (Or.inl c3)))) (by decide) (Nat.zero_le _) (Nat.zero_le _) (Nat.le_of_ble_eq_true rfl) (fun r V3 h => ?_)
    obtain ⟨⟨y1, rfl, -, -, hy1⟩, hE⟩ := h
    have hE := hE.symm
    subst hE
    exact J.less (kc' := 5 * N + 8 * (G)) (ks' := 491 * N + 20013 * (G)) (by omega) (by omega) (K _ (G) _ (Or.inr ⟨(fun q => by rw [jlt] at c3; have q9 : (0 : Int32).toInt = 0 := rfl; omega), hy1⟩) hW hx hm hg hr hc (Nat.le_refl _))
  by_cases c4 : (xs (i + 2).toNatClampNeg) ≤ 20
  rotate_left
  · refine Jw_callV2 (q9 := (RX6, TX6, 7)) moX6_forms jw_ml_L_77 jw_im_X6_forms jw_se_X6_forms hx rfl rfl dL_law_650 (w_X6_forms_zbad 999 _ ax _ _ (by decide) hW hx (Or.inr (Or.inr (Or.inr c4)))) (by decide) (Nat.zero_le _) (Nat.zero_le _) (Nat.le_of_ble_eq_true rfl) (fun r V3 h => ?_)
    obtain ⟨⟨y1, rfl, -, -, hy1⟩, hE⟩ := h
    have hE := hE.symm
    subst hE
    exact J.less (kc' := 5 * N + 8 * (G)) (ks' := 491 * N + 20013 * (G)) (by omega) (by omega) (K _ (G) _ (Or.inr ⟨(fun q => by rw [jle] at c4; have q9 : (20 : Int32).toInt = 20 := rfl; omega), hy1⟩) hW hx hm hg hr hc (Nat.le_refl _))
  have hR : (0 ≤ (xs (i + 1).toNatClampNeg).toInt ∧ (xs (i + 1).toNatClampNeg).toInt ≤ 3 ∧ 0 ≤ (xs (i + 2).toNatClampNeg).toInt ∧ (xs (i + 2).toNatClampNeg).toInt ≤ 20) := by
    have c1i := c1
    have c2i := c2
    have c3i := c3
    have c4i := c4
    rw [jlt] at c1i c3i
    rw [jle] at c2i c4i
    have q9 : (0 : Int32).toInt = 0 := rfl
    have q8 : (Int32.ofNat 4).toInt = 4 := rfl
    have q7 : (0 : Int32).toInt = 0 := rfl
    have q6 : (20 : Int32).toInt = 20 := rfl
    omega
  obtain ⟨fs, tl, f, g, hO, hF, hA, hgs, hsum⟩ := id hg
  obtain ⟨j, hj, hgj⟩ := vp_in_of (vp_in_g c1 c2 (by decide)) (by decide)
  obtain ⟨fs8, tl8, f8, A, v1, v2, v3, hty4, hA5⟩ := id hc.1
  cases hO.symm.trans v1
  cases hF.symm.trans v2
  cases hA.symm.trans v3
  have hgi : (xs (i + 1).toNatClampNeg).toInt = (j : Int) := by rw [hgj]; exact nI_toInt (by omega)
  obtain ⟨hs9q, hp9q, hff9q⟩ := id hr
  obtain ⟨k9, md9, gr9, mn9, sp9, f9, GA9, MN9, SP9, A9, T, hc19, hr19, ht1, hk9, hrows9, hsp9⟩ := id hs9q
  obtain ⟨ck9, cmd9, cA9, ctr⟩ := id hc19
  obtain ⟨gT9, nT9, ST, XT, YT, ZT, htr, z1, z2, z3⟩ := id ht1
  obtain ⟨⟨MT, tM, tE⟩, ⟨gT, tg, tge⟩, ⟨nT, tn, tne⟩, t1, t2, t3, t4, u1, u2, u3, u4⟩ := id htr
  have hnT : 0 ≤ nT.toInt ∧ nT.toInt ≤ 120 := by obtain ⟨fsT, hOT, hFT⟩ := id tn; exact jok_rngI (hW _ _ id hOT) rfl hFT
  cases hf : f j with
  | none =>
    have hroom := jg_none hgs hsum hj hf
    refine Jw_callV2 (q9 := (RX6, TX6, 7)) moX6_forms jw_ml_L_77 jw_im_X6_forms jw_se_X6_forms hx rfl rfl dL_law_650 (w_X6_forms_znew 999 _ ax _ _ fs tl f j A T.1 MT gT nT T.2.1 T.2.2.1 T.2.2.2.1 T.2.2.2.2 ST XT YT ZT (by decide) hW hx hO hF hA hgj hj c1 c2 c3 c4 hf hty4 hA5 tM tg tn t1 t2 t3 t4 u1 u2 u3 u4 tE hnT.2 ctr hc.2.2.1 (by omega) (by omega) z1 z2 z3) (by decide) (by omega) (by omega) (Nat.le_of_ble_eq_true rfl) (fun r V3 h => ?_)
    obtain ⟨⟨hW2, he, y1, rfl, -, -, hy1⟩, hTL, hTF, ⟨f2, hA2, h2, h3⟩, hrt⟩ := h
    obtain ⟨hG2, hg2⟩ := jphi.fresh hO hF hA2 hgs hsum he.1 (jle9.of he (jnot_of rfl)) hW2 hj hf h2 h3
    exact J.less (kc' := 5 * N + 8 * (G - 2)) (ks' := 491 * N + 20013 * (G - 2)) (by omega) (by omega) (K _ (G - 2) _ (Or.inl ⟨hR, by rw [hgi]; exact hy1⟩) hW2 (hx.mono he.1) (hm.mono he.1) hg2 (hr.trial hW2 he hrt (jdis_of rfl)) ⟨hTL, hc.2.1.keep he (jdis_of rfl), hTF, hc.2.2.2.keep he (jdis_of rfl)⟩ (by omega))
  | some t =>
    refine Jw_callV2 (q9 := (RX6, TX6, 7)) moX6_forms jw_ml_L_77 jw_im_X6_forms jw_se_X6_forms hx rfl rfl dL_law_650 (w_X6_forms_zold 999 _ ax _ _ fs tl f j A t T.1 MT gT nT T.2.1 T.2.2.1 T.2.2.2.1 T.2.2.2.2 ST XT YT ZT (by decide) hW hx hO hF hA hgj hj c1 c2 c3 c4 hf hty4 hA5 tM tg tn t1 t2 t3 t4 u1 u2 u3 u4 tE hnT.2 ctr hc.2.2.1 (by omega) (by omega) z1 z2 z3) (by decide) (Nat.zero_le _) (Nat.zero_le _) (Nat.le_of_ble_eq_true rfl) (fun r V3 h => ?_)
    obtain ⟨⟨hW2, he, y1, rfl, -, -, hy1⟩, hTL, hTF, hrt⟩ := h
    exact J.less (kc' := 5 * N + 8 * (G)) (ks' := 491 * N + 20013 * (G)) (by omega) (by omega) (K _ (G) _ (Or.inl ⟨hR, by rw [hgi]; exact hy1⟩) hW2 (hx.mono he.1) (hm.mono he.1) (hg.keep he (jnot_of rfl) (jnot_of rfl)) (hr.trial hW2 he hrt (jdis_of rfl)) ⟨hTL, hc.2.1.keep he (jdis_of rfl), hTF, hc.2.2.2.keep he (jdis_of rfl)⟩ (Nat.le_refl _))
set_option maxRecDepth 100000 in
set_option maxHeartbeats 4000000 in
theorem lawc_16 {tS : jTS} {b L : Nat} {xs : Nat → Int32} (hs9 : tS.2 = some (b, L, xs)) (V : jH) (ax am : Nat) (i : Int32) (G N : Nat) {Q : Option Value → jH → Prop} (hW : WT V) (hx : jis V (.inr 4) ax) (hm : jis V (.inr 5) am) (hg : jphi V ax G) (hr : jRL V ax am) (hc : jTX V ax am) (hin1 : vp_in (i + 1) L) (hin2 : vp_in (i + 2) L) (hin3 : vp_in (i + 3) L) (kk : ∀ (V2 : jH) (G2 : Nat), WT V2 → jis V2 (.inr 4) ax → jis V2 (.inr 5) am → jphi V2 ax G2 → jRL V2 ax am → jTX V2 ax am → G2 ≤ G → J tS mL_law 1000 908 [some (.ref b), some (.ref ax), some (.ref am), some (.int i)] [] V2 (5 * N + 8 * G2) (491 * N + 20013 * G2) Q) : J tS mL_law 1000 672 [some (.ref b), some (.ref ax), some (.ref am), some (.int i)] [] V (5 * (N + 1) + 8 * G) (491 * (N + 1) + 20013 * G) Q := by
  refine J_aload_n dL_law_672 rfl ?_
  refine J_aload_n dL_law_673 rfl ?_
  refine J_iload_n dL_law_674 rfl ?_
  refine J_iconst (v := 1) dL_law_675 (by decide) ?_
  refine J_iadd dL_law_676 ?_
  refine J_sld hs9 dL_law_677 hin1 ?_
  refine J_aload_n dL_law_678 rfl ?_
  refine J_iload_n dL_law_679 rfl ?_
  refine J_iconst (v := 2) dL_law_680 (by decide) ?_
  refine J_iadd dL_law_681 ?_
  refine J_sld hs9 dL_law_682 hin2 ?_
  have K : ∀ (V2 : jH) (G2 : Nat) (y1 : Int32), (((0 ≤ (xs (i + 1).toNatClampNeg).toInt ∧ (xs (i + 1).toNatClampNeg).toInt ≤ 3 ∧ 1 ≤ (xs (i + 2).toNatClampNeg).toInt ∧ (xs (i + 2).toNatClampNeg).toInt ≤ 20) ∧ ((((xs (i + 1).toNatClampNeg).toInt = 2 ∨ 6 < (xs (i + 2).toNatClampNeg).toInt) ∧ y1.toInt = -2) ∨ (¬ (xs (i + 1).toNatClampNeg).toInt = 2 ∧ (xs (i + 2).toNatClampNeg).toInt ≤ 6 ∧ ((10000 < jpw (jdir (xs (i + 1).toNatClampNeg).toInt) (xs (i + 2).toNatClampNeg).toInt.toNat ∧ y1.toInt = -5) ∨ (jpw (jdir (xs (i + 1).toNatClampNeg).toInt) (xs (i + 2).toNatClampNeg).toInt.toNat ≤ 10000 ∧ y1.toInt = ((jre (xs (i + 1).toNatClampNeg).toInt (xs (i + 2).toNatClampNeg).toInt.toNat : Nat) : Int)))))) ∨ (¬ (0 ≤ (xs (i + 1).toNatClampNeg).toInt ∧ (xs (i + 1).toNatClampNeg).toInt ≤ 3 ∧ 1 ≤ (xs (i + 2).toNatClampNeg).toInt ∧ (xs (i + 2).toNatClampNeg).toInt ≤ 20) ∧ y1.toInt = -2)) → WT V2 → jis V2 (.inr 4) ax → jis V2 (.inr 5) am → jphi V2 ax G2 → jRL V2 ax am → jTX V2 ax am → G2 ≤ G → J tS mL_law 1000 686 [some (.ref b), some (.ref ax), some (.ref am), some (.int i)] [.int y1] V2 (5 * N + 8 * G2) (491 * N + 20013 * G2) Q := by
    intro V2 G2 y1 hy1 hW hx hm hg hr hc hG2
    refine J_aload_n dL_law_686 rfl ?_
    refine J_aload_n dL_law_687 rfl ?_
    refine J_iload_n dL_law_688 rfl ?_
    refine J_iconst (v := 1) dL_law_689 (by decide) ?_
    refine J_iadd dL_law_690 ?_
    refine J_sld hs9 dL_law_691 hin1 ?_
    refine J_aload_n dL_law_692 rfl ?_
    refine J_iload_n dL_law_693 rfl ?_
    refine J_iconst (v := 2) dL_law_694 (by decide) ?_
    refine J_iadd dL_law_695 ?_
    refine J_sld hs9 dL_law_696 hin2 ?_
    refine Jw_callV2 (q9 := (RX7, TX7, 34)) moX7_reach jw_ml_L_84 jw_im_X7_reach jw_se_X7_reach hm rfl rfl dL_law_697 (w_X7_reach_z 999 _ am (xs (i + 1).toNatClampNeg) (xs (i + 2).toNatClampNeg) (by decide) hW hm hc.2.1 hc.2.2.2) (by decide) (Nat.zero_le _) (Nat.zero_le _) (Nat.le_of_ble_eq_true rfl) (fun r V3 h => ?_)
    obtain ⟨⟨hW, he, y2, rfl, -, -, hy2⟩, hRM, hRF, hkp⟩ := h
    have hx := hx.mono he.1
    have hm := hm.mono he.1
    have hg := hg.keep he (jnot_of rfl) (jnot_of rfl)
    have hc : jTX V3 ax am := ⟨hc.1.keep he (jdis_of rfl), hRM, hc.2.2.1.keep he (jdis_of rfl), hRF⟩
    have hr := hr.ref he hkp (by decide) (jdis_of rfl)
    have hjp := jpw_nat (d := jdir (xs (i + 1).toNatClampNeg).toInt) (by have q := jdir_cases (xs (i + 1).toNatClampNeg).toInt; omega) (xs (i + 2).toNatClampNeg).toInt.toNat
    have hyA : y1.toInt = y2.toInt := by omega
    refine J_icmp_eq (tgt := 908) dL_law_700 (by decide) (fun _ => ?_) (fun c => absurd (jI_inj.mp (show y1.toInt = y2.toInt by omega)) c)
    exact J.less (kc' := 5 * N + 8 * G2) (ks' := 491 * N + 20013 * G2) (by omega) (by omega) (kk _ G2 hW hx hm hg hr hc hG2)
  by_cases c1 : (xs (i + 1).toNatClampNeg) < 0
  · refine Jw_callV2 (q9 := (RX6, TX6, 7)) moX6_reach jw_ml_L_81 jw_im_X6_reach jw_se_X6_reach hx rfl rfl dL_law_683 (w_X6_reach_zbad 999 _ ax _ _ (by decide) hW hx (Or.inl c1)) (by decide) (Nat.zero_le _) (Nat.zero_le _) (Nat.le_of_ble_eq_true rfl) (fun r V3 h => ?_)
    obtain ⟨⟨y1, rfl, -, -, hy1⟩, hE⟩ := h
    have hE := hE.symm
    subst hE
    exact J.less (kc' := 5 * N + 8 * (G)) (ks' := 491 * N + 20013 * (G)) (by omega) (by omega) (K _ (G) _ (Or.inr ⟨(fun q => by rw [jlt] at c1; have q9 : (0 : Int32).toInt = 0 := rfl; omega), hy1⟩) hW hx hm hg hr hc (Nat.le_refl _))
  by_cases c2 : Int32.ofNat 4 ≤ (xs (i + 1).toNatClampNeg)
  · refine Jw_callV2 (q9 := (RX6, TX6, 7)) moX6_reach jw_ml_L_81 jw_im_X6_reach jw_se_X6_reach hx rfl rfl dL_law_683 (w_X6_reach_zbad 999 _ ax _ _ (by decide) hW hx (Or.inr (Or.inl c2))) (by decide) (Nat.zero_le _) (Nat.zero_le _) (Nat.le_of_ble_eq_true rfl) (fun r V3 h => ?_)
    obtain ⟨⟨y1, rfl, -, -, hy1⟩, hE⟩ := h
    have hE := hE.symm
    subst hE
    exact J.less (kc' := 5 * N + 8 * (G)) (ks' := 491 * N + 20013 * (G)) (by omega) (by omega) (K _ (G) _ (Or.inr ⟨(fun q => by rw [jle] at c2; have q9 : (Int32.ofNat 4).toInt = 4 := rfl; omega), hy1⟩) hW hx hm hg hr hc (Nat.le_refl _))
  by_cases c3 : (xs (i + 2).toNatClampNeg) < 1
  · refine Jw_callV2 (q9 := (RX6, TX6, 7)) moX6_reach jw_ml_L_81 jw_im_X6_reach jw_se_X6_reach hx rfl rfl dL_law_683 (w_X6_reach_zbad 999 _ ax _ _ (by decide) hW hx (Or.inr (Or.inr (Or.inl c3)))) (by decide) (Nat.zero_le _) (Nat.zero_le _) (Nat.le_of_ble_eq_true rfl) (fun r V3 h => ?_)
    obtain ⟨⟨y1, rfl, -, -, hy1⟩, hE⟩ := h
    have hE := hE.symm
    subst hE
    exact J.less (kc' := 5 * N + 8 * (G)) (ks' := 491 * N + 20013 * (G)) (by omega) (by omega) (K _ (G) _ (Or.inr ⟨(fun q => by rw [jlt] at c3; have q9 : (1 : Int32).toInt = 1 := rfl; omega), hy1⟩) hW hx hm hg hr hc (Nat.le_refl _))
  by_cases c4 : (xs (i + 2).toNatClampNeg) ≤ 20
  rotate_left
  · refine Jw_callV2 (q9 := (RX6, TX6, 7)) moX6_reach jw_ml_L_81 jw_im_X6_reach jw_se_X6_reach hx rfl rfl dL_law_683 (w_X6_reach_zbad 999 _ ax _ _ (by decide) hW hx (Or.inr (Or.inr (Or.inr c4)))) (by decide) (Nat.zero_le _) (Nat.zero_le _) (Nat.le_of_ble_eq_true rfl) (fun r V3 h => ?_)
    obtain ⟨⟨y1, rfl, -, -, hy1⟩, hE⟩ := h
    have hE := hE.symm
    subst hE
    exact J.less (kc' := 5 * N + 8 * (G)) (ks' := 491 * N + 20013 * (G)) (by omega) (by omega) (K _ (G) _ (Or.inr ⟨(fun q => by rw [jle] at c4; have q9 : (20 : Int32).toInt = 20 := rfl; omega), hy1⟩) hW hx hm hg hr hc (Nat.le_refl _))
  have hR : (0 ≤ (xs (i + 1).toNatClampNeg).toInt ∧ (xs (i + 1).toNatClampNeg).toInt ≤ 3 ∧ 1 ≤ (xs (i + 2).toNatClampNeg).toInt ∧ (xs (i + 2).toNatClampNeg).toInt ≤ 20) := by
    have c1i := c1
    have c2i := c2
    have c3i := c3
    have c4i := c4
    rw [jlt] at c1i c3i
    rw [jle] at c2i c4i
    have q9 : (0 : Int32).toInt = 0 := rfl
    have q8 : (Int32.ofNat 4).toInt = 4 := rfl
    have q7 : (1 : Int32).toInt = 1 := rfl
    have q6 : (20 : Int32).toInt = 20 := rfl
    omega
  obtain ⟨fs, tl, f, g, hO, hF, hA, hgs, hsum⟩ := id hg
  obtain ⟨j, hj, hgj⟩ := vp_in_of (vp_in_g c1 c2 (by decide)) (by decide)
  obtain ⟨fs8, tl8, f8, A, v1, v2, v3, hty4, hA5⟩ := id hc.1
  cases hO.symm.trans v1
  cases hF.symm.trans v2
  cases hA.symm.trans v3
  have hgi : (xs (i + 1).toNatClampNeg).toInt = (j : Int) := by rw [hgj]; exact nI_toInt (by omega)
  obtain ⟨hs9q, hp9q, hff9q⟩ := id hr
  obtain ⟨k9, md9, gr9, mn9, sp9, f9, GA9, MN9, SP9, A9, T, hc19, hr19, ht1, hk9, hrows9, hsp9⟩ := id hs9q
  obtain ⟨ck9, cmd9, cA9, ctr⟩ := id hc19
  obtain ⟨gT9, nT9, ST, XT, YT, ZT, htr, z1, z2, z3⟩ := id ht1
  obtain ⟨⟨MT, tM, tE⟩, ⟨gT, tg, tge⟩, ⟨nT, tn, tne⟩, t1, t2, t3, t4, u1, u2, u3, u4⟩ := id htr
  have hnT : 0 ≤ nT.toInt ∧ nT.toInt ≤ 120 := by obtain ⟨fsT, hOT, hFT⟩ := id tn; exact jok_rngI (hW _ _ id hOT) rfl hFT
  cases hf : f j with
  | none =>
    have hroom := jg_none hgs hsum hj hf
    have c3i : 1 ≤ (xs (i + 2).toNatClampNeg).toInt := hR.2.2.1
    have c4i : (xs (i + 2).toNatClampNeg).toInt ≤ 20 := hR.2.2.2
    refine Jw_callV2 (q9 := (RX6, TX6, 7)) moX6_reach jw_ml_L_81 jw_im_X6_reach jw_se_X6_reach hx rfl rfl dL_law_683 (w_X6_reach_zn 999 _ ax _ _ fs tl f j A T.1 MT gT nT T.2.1 T.2.2.1 T.2.2.2.1 T.2.2.2.2 ST XT YT ZT (by decide) hW hx hO hF hA hgj hj c1 c2 c3 c4 hf hty4 hA5 tM tg tn t1 t2 t3 t4 u1 u2 u3 u4 tE hnT.2 ctr hc.2.2.1 c3i c4i z1 z2 z3) (by decide) (by omega) (by omega) (Nat.le_of_ble_eq_true rfl) (fun r V3 h => ?_)
    obtain ⟨⟨hW2, he, y1, rfl, -, -, hy1⟩, h9, ⟨f2, hA2, h2, h3⟩, hTL, hTF, hrt⟩ := h
    obtain ⟨hG2, hg2⟩ := jphi.fresh hO hF hA2 hgs hsum he.1 h9 hW2 hj hf h2 h3
    exact J.less (kc' := 5 * N + 8 * (G - 2)) (ks' := 491 * N + 20013 * (G - 2)) (by omega) (by omega) (K _ (G - 2) _ (Or.inl ⟨hR, by rw [hgi] at hy1 ⊢; exact hy1⟩) hW2 (hx.mono he.1) (hm.mono he.1) hg2 (hr.trial hW2 he hrt (jdis_of rfl)) ⟨hTL, hc.2.1.keep he (jdis_of rfl), hTF, hc.2.2.2.keep he (jdis_of rfl)⟩ (by omega))
  | some t =>
    have c3i : 1 ≤ (xs (i + 2).toNatClampNeg).toInt := hR.2.2.1
    have c4i : (xs (i + 2).toNatClampNeg).toInt ≤ 20 := hR.2.2.2
    obtain ⟨n4, f4, hA4, -, -, hv4⟩ := WT_arrR hW id rfl (show jis V (.inl 5) tl from ⟨_, hA, rfl⟩)
    cases hA.symm.trans hA4
    obtain ⟨ts, ht, hKt⟩ := WT_obj hW id (hv4 j t hj hf)
    obtain ⟨rc, h5, hq9, hrc, hre, hup⟩ := jTF.at2 hc.2.2.1 hO hF hA hj hf
    have hF9 := hq9.get ht
    by_cases cq : (xs (i + 1).toNatClampNeg).toInt = 2 ∨ 6 < (xs (i + 2).toNatClampNeg).toInt ∨ 10000 < jpw (jdir (xs (i + 1).toNatClampNeg).toInt) (xs (i + 2).toNatClampNeg).toInt.toNat ∨ ¬ (h5 (xs (i + 2).toNatClampNeg).toInt.toNat).toInt = -1
    · refine Jw_callV2 (q9 := (RX6, TX6, 7)) moX6_reach jw_ml_L_81 jw_im_X6_reach jw_se_X6_reach hx rfl rfl dL_law_683 (w_X6_reach_zq 999 _ ax _ _ fs tl f j t ts rc h5 (by decide) hW hx hO hF hA hgj hj c1 c2 c3 c4 hf ht hF9 hrc hre c3i c4i cq) (by decide) (Nat.zero_le _) (Nat.zero_le _) (Nat.le_of_ble_eq_true rfl) (fun r V3 h => ?_)
      obtain ⟨⟨y1, rfl, -, -, hy1⟩, hE⟩ := h
      have hE := hE.symm
      subst hE
      exact J.less (kc' := 5 * N + 8 * (G)) (ks' := 491 * N + 20013 * (G)) (by omega) (by omega) (K _ (G) _ (Or.inl ⟨hR, by rw [hgi] at hy1 ⊢; exact hy1⟩) hW hx hm hg hr hc (Nat.le_refl _))
    have d1 := fun q => cq (Or.inl q)
    have d2 := fun q => cq (Or.inr (Or.inl q))
    have d3 := fun q => cq (Or.inr (Or.inr (Or.inl q)))
    have d4 := Classical.not_not.mp (fun q => cq (Or.inr (Or.inr (Or.inr q))))
    have hroom := jg_some hgs hsum hj hf ht hF9 hrc (x := (xs (i + 2).toNatClampNeg).toInt.toNat) (by omega) d4
    refine Jw_callV2 (q9 := (RX6, TX6, 7)) moX6_reach jw_ml_L_81 jw_im_X6_reach jw_se_X6_reach hx rfl rfl dL_law_683 (w_X6_reach_za 999 _ ax _ _ fs tl f j t ts rc h5 T.1 MT gT nT T.2.1 T.2.2.1 T.2.2.2.1 T.2.2.2.2 ST XT YT ZT (by decide) hW hx hO hF hA hgj hj c1 c2 c3 c4 hf ht hF9 hrc tM tg tn t1 t2 t3 t4 u1 u2 u3 u4 tE hnT.2 ctr c3i c4i d1 (by omega) (by omega) d4 z1 z2 z3) (by decide) (by omega) (by omega) (Nat.le_of_ble_eq_true rfl) (fun r V3 h => ?_)
    obtain ⟨⟨hW2, he, y1, rfl, -, -, hy1⟩, h9, ⟨H2, hH2, hc2, hH3, hH4⟩, hfk, hrt⟩ := h
    obtain ⟨hG2, hg2⟩ := jphi.alloc hO hF (he.2 _ _ hA (jnot_of rfl)) hgs hsum he.1 h9 hj hf ht hF9 hrc hH2 hc2
    have hTF := hup _ _ hfk hH2 (fun m hm => by by_cases e : m = (xs (i + 2).toNatClampNeg).toInt.toNat; (subst e; exact Or.inr hH3); (rw [hH4 m e]; exact hre m hm))
    exact J.less (kc' := 5 * N + 8 * (G - 1)) (ks' := 491 * N + 20013 * (G - 1)) (by omega) (by omega) (K _ (G - 1) _ (Or.inl ⟨hR, Or.inr ⟨d1, by omega, Or.inr ⟨by omega, by rw [hgi]; exact hy1⟩⟩⟩) hW2 (hx.mono he.1) (hm.mono he.1) hg2 (hr.trial hW2 he hrt (jdis_of rfl)) ⟨hc.1.keep he (jdis_of rfl), hc.2.1.keep he (jdis_of rfl), hTF, hc.2.2.2.keep he (jdis_of rfl)⟩ (by omega))
