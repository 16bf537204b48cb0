set_option maxRecDepth 100000 in
set_option maxHeartbeats 4000000 in
theorem lawc_8 {tS : jTS} {b L : Nat} {xs : Nat → Int32} (hs9 : tS.2 = some (b, L, xs)) (V : jH) (ax am : Nat) (i : Int32) (G N : Nat) {Q : Option Value → jH → Prop} (hW : WT V) (hx : jis V (.inr 4) ax) (hm : jis V (.inr 5) am) (hg : jphi V ax G) (hr : jRL V ax am) (hin1 : vp_in (i + 1) L) (hin2 : vp_in (i + 2) L) (hin3 : vp_in (i + 3) L) (kk : ∀ (V2 : jH) (G2 : Nat), WT V2 → jis V2 (.inr 4) ax → jis V2 (.inr 5) am → jphi V2 ax G2 → jRL V2 ax am → G2 ≤ G → J tS mL_law 1000 909 [some (.ref b), some (.ref ax), some (.ref am), some (.int i)] [] V2 (5 * N + 8 * G2) (491 * N + 20013 * G2) Q) : J tS mL_law 1000 408 [some (.ref b), some (.ref ax), some (.ref am), some (.int i)] [] V (5 * (N + 1) + 8 * G) (491 * (N + 1) + 20013 * G) Q := by
  refine J_aload_n dL_law_408 rfl ?_
  refine J_aload_n dL_law_409 rfl ?_
  refine J_iload_n dL_law_410 rfl ?_
  refine J_iconst (v := 1) dL_law_411 (by decide) ?_
  refine J_iadd dL_law_412 ?_
  refine J_sld hs9 dL_law_413 hin1 ?_
  refine J_aload_n dL_law_414 rfl ?_
  refine J_iload_n dL_law_415 rfl ?_
  refine J_iconst (v := 2) dL_law_416 (by decide) ?_
  refine J_iadd dL_law_417 ?_
  refine J_sld hs9 dL_law_418 hin2 ?_
  have K : ∀ (V2 : jH) (G2 : Nat) (y1 : Int32), WT V2 → jis V2 (.inr 4) ax → jis V2 (.inr 5) am → jphi V2 ax G2 → jRL V2 ax am → G2 ≤ G → J tS mL_law 1000 422 [some (.ref b), some (.ref ax), some (.ref am), some (.int i)] [.int y1] V2 (5 * N + 8 * G2) (491 * N + 20013 * G2) Q := by
    intro V2 G2 y1 hW hx hm hg hr hG2
    refine J_pop dL_law_422 rfl ?_
    refine J_aload_n dL_law_423 rfl ?_
    refine J_aload_n dL_law_424 rfl ?_
    refine J_iload_n dL_law_425 rfl ?_
    refine J_iconst (v := 1) dL_law_426 (by decide) ?_
    refine J_iadd dL_law_427 ?_
    refine J_sld hs9 dL_law_428 hin1 ?_
    refine J_aload_n dL_law_429 rfl ?_
    refine J_iload_n dL_law_430 rfl ?_
    refine J_iconst (v := 2) dL_law_431 (by decide) ?_
    refine J_iadd dL_law_432 ?_
    refine J_sld hs9 dL_law_433 hin2 ?_
    refine Jw_callV2 (q9 := (RX7, TX7, 34)) moX7_about jw_ml_L_51 jw_im_X7_about jw_se_X7_about hm rfl rfl dL_law_434 (w_X7_about 999 _ am (xs (i + 1).toNatClampNeg) (xs (i + 2).toNatClampNeg) (by decide) hW hm ) (by decide) (Nat.zero_le _) (Nat.zero_le _) (Nat.le_of_ble_eq_true rfl) (fun r V3 h => ?_)
    obtain ⟨⟨hW, he, y2, rfl, hy2⟩, hkp⟩ := h
    have hx := hx.mono he.1
    have hm := hm.mono he.1
    have hg := hg.keep he (jnot_of rfl) (jnot_of rfl)
    have hr := hr.ref he hkp (by decide) (jdis_of rfl)
    refine J_pop dL_law_437 rfl ?_
    refine J_goto (tgt := 909) dL_law_438 (by decide) ?_
    exact J.less (kc' := 5 * N + 8 * G2) (ks' := 491 * N + 20013 * G2) (by omega) (by omega) (kk _ G2 hW hx hm hg hr hG2)
  refine Jw_callV2 (q9 := (RX6, TX6, 7)) moX6_about jw_ml_L_48 jw_im_X6_about jw_se_X6_about hx rfl rfl dL_law_419 (w_X6_about 999 _ ax (xs (i + 1).toNatClampNeg) (xs (i + 2).toNatClampNeg) (by decide) hW hx ) (by decide) (Nat.zero_le _) (Nat.zero_le _) (Nat.le_of_ble_eq_true rfl) (fun r V3 h => ?_)
  obtain ⟨⟨y1, rfl, hy1⟩, hE⟩ := h
  subst hE
  exact J.less (kc' := 5 * N + 8 * (G)) (ks' := 491 * N + 20013 * (G)) (by omega) (by omega) (K _ (G) _ hW hx hm hg hr (Nat.le_refl _))
set_option maxRecDepth 100000 in
set_option maxHeartbeats 4000000 in
theorem lawc_9 {tS : jTS} {b L : Nat} {xs : Nat → Int32} (hs9 : tS.2 = some (b, L, xs)) (V : jH) (ax am : Nat) (i : Int32) (G N : Nat) {Q : Option Value → jH → Prop} (hW : WT V) (hx : jis V (.inr 4) ax) (hm : jis V (.inr 5) am) (hg : jphi V ax G) (hr : jRL V ax am) (hin1 : vp_in (i + 1) L) (hin2 : vp_in (i + 2) L) (hin3 : vp_in (i + 3) L) (kk : ∀ (V2 : jH) (G2 : Nat), WT V2 → jis V2 (.inr 4) ax → jis V2 (.inr 5) am → jphi V2 ax G2 → jRL V2 ax am → G2 ≤ G → J tS mL_law 1000 909 [some (.ref b), some (.ref ax), some (.ref am), some (.int i)] [] V2 (5 * N + 8 * G2) (491 * N + 20013 * G2) Q) : J tS mL_law 1000 441 [some (.ref b), some (.ref ax), some (.ref am), some (.int i)] [] V (5 * (N + 1) + 8 * G) (491 * (N + 1) + 20013 * G) Q := by
  refine J_aload_n dL_law_441 rfl ?_
  refine J_aload_n dL_law_442 rfl ?_
  refine J_iload_n dL_law_443 rfl ?_
  refine J_iconst (v := 1) dL_law_444 (by decide) ?_
  refine J_iadd dL_law_445 ?_
  refine J_sld hs9 dL_law_446 hin1 ?_
  refine J_aload_n dL_law_447 rfl ?_
  refine J_iload_n dL_law_448 rfl ?_
  refine J_iconst (v := 2) dL_law_449 (by decide) ?_
  refine J_iadd dL_law_450 ?_
  refine J_sld hs9 dL_law_451 hin2 ?_
  have K : ∀ (V2 : jH) (G2 : Nat) (y1 : Int32), WT V2 → jis V2 (.inr 4) ax → jis V2 (.inr 5) am → jphi V2 ax G2 → jRL V2 ax am → G2 ≤ G → J tS mL_law 1000 455 [some (.ref b), some (.ref ax), some (.ref am), some (.int i)] [.int y1] V2 (5 * N + 8 * G2) (491 * N + 20013 * G2) Q := by
    intro V2 G2 y1 hW hx hm hg hr hG2
    refine J_pop dL_law_455 rfl ?_
    refine J_aload_n dL_law_456 rfl ?_
    refine J_aload_n dL_law_457 rfl ?_
    refine J_iload_n dL_law_458 rfl ?_
    refine J_iconst (v := 1) dL_law_459 (by decide) ?_
    refine J_iadd dL_law_460 ?_
    refine J_sld hs9 dL_law_461 hin1 ?_
    refine J_aload_n dL_law_462 rfl ?_
    refine J_iload_n dL_law_463 rfl ?_
    refine J_iconst (v := 2) dL_law_464 (by decide) ?_
    refine J_iadd dL_law_465 ?_
    refine J_sld hs9 dL_law_466 hin2 ?_
    refine Jw_callV2 (q9 := (RX7, TX7, 34)) moX7_form jw_ml_L_55 jw_im_X7_form jw_se_X7_form hm rfl rfl dL_law_467 (w_X7_form 999 _ am (xs (i + 1).toNatClampNeg) (xs (i + 2).toNatClampNeg) (by decide) hW hm ) (by decide) (Nat.zero_le _) (Nat.zero_le _) (Nat.le_of_ble_eq_true rfl) (fun r V3 h => ?_)
    obtain ⟨⟨hW, he, y2, rfl, hy2⟩, hkp⟩ := h
    have hx := hx.mono he.1
    have hm := hm.mono he.1
    have hg := hg.keep he (jnot_of rfl) (jnot_of rfl)
    have hr := hr.ref he hkp (by decide) (jdis_of rfl)
    refine J_pop dL_law_470 rfl ?_
    refine J_goto (tgt := 909) dL_law_471 (by decide) ?_
    exact J.less (kc' := 5 * N + 8 * G2) (ks' := 491 * N + 20013 * G2) (by omega) (by omega) (kk _ G2 hW hx hm hg hr hG2)
  refine Jw_callV2 (q9 := (RX6, TX6, 7)) moX6_form jw_ml_L_52 jw_im_X6_form jw_se_X6_form hx rfl rfl dL_law_452 (w_X6_form 999 _ ax (xs (i + 1).toNatClampNeg) (xs (i + 2).toNatClampNeg) (by decide) hW hx ) (by decide) (Nat.zero_le _) (Nat.zero_le _) (Nat.le_of_ble_eq_true rfl) (fun r V3 h => ?_)
  obtain ⟨hW2, he, y1, rfl, hy1⟩ := h
  exact J.less (kc' := 5 * N + 8 * (G)) (ks' := 491 * N + 20013 * (G)) (by omega) (by omega) (K _ (G) _ hW2 (hx.mono he.1) (hm.mono he.1) (hg.keep he (jnot_of rfl) (jnot_of rfl)) (hr.own he (jdis_of rfl)) (Nat.le_refl _))
set_option maxRecDepth 100000 in
set_option maxHeartbeats 4000000 in
theorem lawc_10 {tS : jTS} {b L : Nat} {xs : Nat → Int32} (hs9 : tS.2 = some (b, L, xs)) (V : jH) (ax am : Nat) (i : Int32) (G N : Nat) {Q : Option Value → jH → Prop} (hW : WT V) (hx : jis V (.inr 4) ax) (hm : jis V (.inr 5) am) (hg : jphi V ax G) (hr : jRL V ax am) (hin1 : vp_in (i + 1) L) (hin2 : vp_in (i + 2) L) (hin3 : vp_in (i + 3) L) (kk : ∀ (V2 : jH) (G2 : Nat), WT V2 → jis V2 (.inr 4) ax → jis V2 (.inr 5) am → jphi V2 ax G2 → jRL V2 ax am → G2 ≤ G → J tS mL_law 1000 909 [some (.ref b), some (.ref ax), some (.ref am), some (.int i)] [] V2 (5 * N + 8 * G2) (491 * N + 20013 * G2) Q) : J tS mL_law 1000 474 [some (.ref b), some (.ref ax), some (.ref am), some (.int i)] [] V (5 * (N + 1) + 8 * G) (491 * (N + 1) + 20013 * G) Q := by
  refine J_aload_n dL_law_474 rfl ?_
  refine J_aload_n dL_law_475 rfl ?_
  refine J_iload_n dL_law_476 rfl ?_
  refine J_iconst (v := 1) dL_law_477 (by decide) ?_
  refine J_iadd dL_law_478 ?_
  refine J_sld hs9 dL_law_479 hin1 ?_
  refine J_aload_n dL_law_480 rfl ?_
  refine J_iload_n dL_law_481 rfl ?_
  refine J_iconst (v := 2) dL_law_482 (by decide) ?_
  refine J_iadd dL_law_483 ?_
  refine J_sld hs9 dL_law_484 hin2 ?_
  obtain ⟨hs, hp, hff⟩ := id hr
  obtain ⟨k, md, gr, mn, sp, f, GA, MN, SP, A, T, hc1, hr1, ht1, hk, hrows, hsp⟩ := id hs
  obtain ⟨ck, cmd, cA, ctr⟩ := id hc1
  obtain ⟨rk, rgr, rmn, rsp, rGA, rMN, rSP⟩ := id hr1
  obtain ⟨rw, px, py, pz, RW, PX, PY, PZ, q4, q6, q7, q8, b4, b6, b7, b8⟩ := WT_ref hW hm
  by_cases cW : 0 ≤ (xs (i + 1).toNatClampNeg).toInt ∧ (xs (i + 1).toNatClampNeg).toInt < k.toInt
  rotate_left
  · skip
    by_cases cX : 0 ≤ (xs (i + 2).toNatClampNeg).toInt ∧ (xs (i + 2).toNatClampNeg).toInt < k.toInt
    rotate_left
    · skip
      refine Jw_callV2 (q9 := (RX6, TX6, 7)) moX6_alike jw_ml_L_56 jw_im_X6_alike jw_se_X6_alike hx rfl rfl dL_law_485 (w_X6_alike_oo 999 _ ax (xs (i + 1).toNatClampNeg) (xs (i + 2).toNatClampNeg) k md (by decide) hW hx ck cmd cW cX) (by decide) (Nat.zero_le _) (Nat.zero_le _) (Nat.le_of_ble_eq_true rfl) (fun r V4 h => ?_)
      obtain ⟨⟨y1, rfl, -, -, hy1⟩, hE⟩ := h
      have hE := hE.symm
      subst hE
      refine J.less (kc' := 5 * N + 8 * G) (ks' := 491 * N + 20013 * G) (by omega) (by omega) ?_
      obtain ⟨G2, hGe⟩ : ∃ G2 : Nat, G2 = G := ⟨_, rfl⟩
      have hG2 : G2 ≤ G := Nat.le_of_eq hGe
      rw [← hGe] at hg ⊢
      refine J_pop dL_law_488 rfl ?_
      refine J_aload_n dL_law_489 rfl ?_
      refine J_aload_n dL_law_490 rfl ?_
      refine J_iload_n dL_law_491 rfl ?_
      refine J_iconst (v := 1) dL_law_492 (by decide) ?_
      refine J_iadd dL_law_493 ?_
      refine J_sld hs9 dL_law_494 hin1 ?_
      refine J_aload_n dL_law_495 rfl ?_
      refine J_iload_n dL_law_496 rfl ?_
      refine J_iconst (v := 2) dL_law_497 (by decide) ?_
      refine J_iadd dL_law_498 ?_
      refine J_sld hs9 dL_law_499 hin2 ?_
      refine Jw_callV2 (q9 := (RX7, TX7, 34)) moX7_alike jw_ml_L_59 jw_im_X7_alike jw_se_X7_alike hm rfl rfl dL_law_500 (w_X7_alike_bad 999 _ am (xs (i + 1).toNatClampNeg) (xs (i + 2).toNatClampNeg) k gr mn sp rw px py pz GA MN SP RW PX PY PZ (by decide) hW hm rk rgr rmn rsp q4 q6 q7 q8 rGA rMN rSP b4 b6 b7 b8 (fun q => cW ⟨q.1, q.2.1⟩)) (by decide) (Nat.zero_le _) (Nat.zero_le _) (Nat.le_of_ble_eq_true rfl) (fun r V3 h => ?_)
      obtain ⟨⟨y2, rfl, -, -, hy2⟩, hE⟩ := h
      have hE := hE.symm
      subst hE
      refine J_pop dL_law_503 rfl ?_
      refine J_goto (tgt := 909) dL_law_504 (by decide) ?_
      exact J.less (kc' := 5 * N + 8 * G2) (ks' := 491 * N + 20013 * G2) (by omega) (by omega) (kk _ G2 hW hx hm hg hr hG2)
    have hw9B : (((xs (i + 2).toNatClampNeg).toInt.toNat : Nat) : Int) < k.toInt := by omega
    obtain ⟨SB, XB, YB, ZB, hfoB, hrowB, hwvB⟩ := hrows (xs (i + 2).toNatClampNeg).toInt.toNat hw9B
    obtain ⟨⟨MB, mMB, eMB⟩, ⟨gB, mgB, egB⟩, ⟨nB, nnB, enB⟩, s1B, s2B, s3B, s4B, a1B, a2B, a3B, a4B⟩ := id hrowB
    obtain rfl := jI_inj.mp egB
    obtain rfl := jI_inj.mp enB
    obtain ⟨hg9B, hn9B, hstB, hjvB, havB⟩ := id hwvB
    have hTSB : ∀ q : Nat, q < (MN (xs (i + 2).toNatClampNeg).toInt.toNat).toInt.toNat → (SB q).toInt = (SP (60 * (xs (i + 2).toNatClampNeg).toInt.toNat + q)).toInt := fun q hq => (hstB q (by omega)).1
    have hSrB : ∀ j : Nat, (j : Int) < (MN (xs (i + 2).toNatClampNeg).toInt.toNat).toInt → 0 ≤ (SB j).toInt ∧ (SB j).toInt < jdir (GA (xs (i + 2).toNatClampNeg).toInt.toNat).toInt := fun j hj => by rw [(hstB j hj).1]; exact (hstB j hj).2
    have hPrB : ∀ j : Nat, (j : Int) < (MN (xs (i + 2).toNatClampNeg).toInt.toNat).toInt → 0 ≤ (SP (60 * (xs (i + 2).toNatClampNeg).toInt.toNat + j)).toInt ∧ (SP (60 * (xs (i + 2).toNatClampNeg).toInt.toNat + j)).toInt < jdir (GA (xs (i + 2).toNatClampNeg).toInt.toNat).toInt := fun j hj => (hstB j hj).2
    have hjvSB := hjvB.congr (U := fun q => (SB q).toInt) (fun q hq => (hTSB q hq).symm)
    have havSB := havB.congr (U := fun q => (SB q).toInt) (fun q hq => (hTSB q hq).symm)
    refine Jw_callV2 (q9 := (RX6, TX6, 7)) moX6_alike jw_ml_L_56 jw_im_X6_alike jw_se_X6_alike hx rfl rfl dL_law_485 (w_X6_alike_oi 999 _ ax (xs (i + 1).toNatClampNeg) (xs (i + 2).toNatClampNeg) k md f (A ((xs (i + 2).toNatClampNeg).toInt.toNat)).1 MB (GA ((xs (i + 2).toNatClampNeg).toInt.toNat)) (MN ((xs (i + 2).toNatClampNeg).toInt.toNat)) (A ((xs (i + 2).toNatClampNeg).toInt.toNat)).2.1 (A ((xs (i + 2).toNatClampNeg).toInt.toNat)).2.2.1 (A ((xs (i + 2).toNatClampNeg).toInt.toNat)).2.2.2.1 (A ((xs (i + 2).toNatClampNeg).toInt.toNat)).2.2.2.2 SB XB YB ZB (by decide) hW hx ck cmd cA mMB mgB nnB s1B s2B s3B s4B a1B a2B a3B a4B eMB hn9B.2 hfoB cW cX.1 cX.2) (by decide) (Nat.zero_le _) (Nat.zero_le _) (Nat.le_of_ble_eq_true rfl) (fun r V4 h => ?_)
    obtain ⟨⟨y1, rfl, -, -, hy1⟩, hE⟩ := h
    have hE := hE.symm
    subst hE
    refine J.less (kc' := 5 * N + 8 * G) (ks' := 491 * N + 20013 * G) (by omega) (by omega) ?_
    obtain ⟨G2, hGe⟩ : ∃ G2 : Nat, G2 = G := ⟨_, rfl⟩
    have hG2 : G2 ≤ G := Nat.le_of_eq hGe
    rw [← hGe] at hg ⊢
    refine J_pop dL_law_488 rfl ?_
    refine J_aload_n dL_law_489 rfl ?_
    refine J_aload_n dL_law_490 rfl ?_
    refine J_iload_n dL_law_491 rfl ?_
    refine J_iconst (v := 1) dL_law_492 (by decide) ?_
    refine J_iadd dL_law_493 ?_
    refine J_sld hs9 dL_law_494 hin1 ?_
    refine J_aload_n dL_law_495 rfl ?_
    refine J_iload_n dL_law_496 rfl ?_
    refine J_iconst (v := 2) dL_law_497 (by decide) ?_
    refine J_iadd dL_law_498 ?_
    refine J_sld hs9 dL_law_499 hin2 ?_
    refine Jw_callV2 (q9 := (RX7, TX7, 34)) moX7_alike jw_ml_L_59 jw_im_X7_alike jw_se_X7_alike hm rfl rfl dL_law_500 (w_X7_alike_bad 999 _ am (xs (i + 1).toNatClampNeg) (xs (i + 2).toNatClampNeg) k gr mn sp rw px py pz GA MN SP RW PX PY PZ (by decide) hW hm rk rgr rmn rsp q4 q6 q7 q8 rGA rMN rSP b4 b6 b7 b8 (fun q => cW ⟨q.1, q.2.1⟩)) (by decide) (Nat.zero_le _) (Nat.zero_le _) (Nat.le_of_ble_eq_true rfl) (fun r V3 h => ?_)
    obtain ⟨⟨y2, rfl, -, -, hy2⟩, hE⟩ := h
    have hE := hE.symm
    subst hE
    refine J_pop dL_law_503 rfl ?_
    refine J_goto (tgt := 909) dL_law_504 (by decide) ?_
    exact J.less (kc' := 5 * N + 8 * G2) (ks' := 491 * N + 20013 * G2) (by omega) (by omega) (kk _ G2 hW hx hm hg hr hG2)
  have hw9 : (((xs (i + 1).toNatClampNeg).toInt.toNat : Nat) : Int) < k.toInt := by omega
  obtain ⟨S, X, Y, Z, hfo, hrow, hwv⟩ := hrows (xs (i + 1).toNatClampNeg).toInt.toNat hw9
  obtain ⟨⟨M, mM, eM⟩, ⟨g, mg, eg⟩, ⟨n, nn, en⟩, s1, s2, s3, s4, a1, a2, a3, a4⟩ := id hrow
  obtain rfl := jI_inj.mp eg
  obtain rfl := jI_inj.mp en
  obtain ⟨hg9, hn9, hst, hjv, hav⟩ := id hwv
  have hTS : ∀ q : Nat, q < (MN (xs (i + 1).toNatClampNeg).toInt.toNat).toInt.toNat → (S q).toInt = (SP (60 * (xs (i + 1).toNatClampNeg).toInt.toNat + q)).toInt := fun q hq => (hst q (by omega)).1
  have hSr : ∀ j : Nat, (j : Int) < (MN (xs (i + 1).toNatClampNeg).toInt.toNat).toInt → 0 ≤ (S j).toInt ∧ (S j).toInt < jdir (GA (xs (i + 1).toNatClampNeg).toInt.toNat).toInt := fun j hj => by rw [(hst j hj).1]; exact (hst j hj).2
  have hPr : ∀ j : Nat, (j : Int) < (MN (xs (i + 1).toNatClampNeg).toInt.toNat).toInt → 0 ≤ (SP (60 * (xs (i + 1).toNatClampNeg).toInt.toNat + j)).toInt ∧ (SP (60 * (xs (i + 1).toNatClampNeg).toInt.toNat + j)).toInt < jdir (GA (xs (i + 1).toNatClampNeg).toInt.toNat).toInt := fun j hj => (hst j hj).2
  have hjvS := hjv.congr (U := fun q => (S q).toInt) (fun q hq => (hTS q hq).symm)
  have havS := hav.congr (U := fun q => (S q).toInt) (fun q hq => (hTS q hq).symm)
  by_cases cX : 0 ≤ (xs (i + 2).toNatClampNeg).toInt ∧ (xs (i + 2).toNatClampNeg).toInt < k.toInt
  rotate_left
  · skip
    refine Jw_callV2 (q9 := (RX6, TX6, 7)) moX6_alike jw_ml_L_56 jw_im_X6_alike jw_se_X6_alike hx rfl rfl dL_law_485 (w_X6_alike_out2 999 _ ax (xs (i + 1).toNatClampNeg) (xs (i + 2).toNatClampNeg) k md f (A ((xs (i + 1).toNatClampNeg).toInt.toNat)).1 M (GA ((xs (i + 1).toNatClampNeg).toInt.toNat)) (MN ((xs (i + 1).toNatClampNeg).toInt.toNat)) (A ((xs (i + 1).toNatClampNeg).toInt.toNat)).2.1 (A ((xs (i + 1).toNatClampNeg).toInt.toNat)).2.2.1 (A ((xs (i + 1).toNatClampNeg).toInt.toNat)).2.2.2.1 (A ((xs (i + 1).toNatClampNeg).toInt.toNat)).2.2.2.2 S X Y Z (by decide) hW hx ck cmd cA mM mg nn s1 s2 s3 s4 a1 a2 a3 a4 eM hn9.2 hfo cW.1 cW.2 cX) (by decide) (Nat.zero_le _) (Nat.zero_le _) (Nat.le_of_ble_eq_true rfl) (fun r V4 h => ?_)
    obtain ⟨⟨y1, rfl, -, -, hy1⟩, hE⟩ := h
    have hE := hE.symm
    subst hE
    refine J.less (kc' := 5 * N + 8 * G) (ks' := 491 * N + 20013 * G) (by omega) (by omega) ?_
    obtain ⟨G2, hGe⟩ : ∃ G2 : Nat, G2 = G := ⟨_, rfl⟩
    have hG2 : G2 ≤ G := Nat.le_of_eq hGe
    rw [← hGe] at hg ⊢
    refine J_pop dL_law_488 rfl ?_
    refine J_aload_n dL_law_489 rfl ?_
    refine J_aload_n dL_law_490 rfl ?_
    refine J_iload_n dL_law_491 rfl ?_
    refine J_iconst (v := 1) dL_law_492 (by decide) ?_
    refine J_iadd dL_law_493 ?_
    refine J_sld hs9 dL_law_494 hin1 ?_
    refine J_aload_n dL_law_495 rfl ?_
    refine J_iload_n dL_law_496 rfl ?_
    refine J_iconst (v := 2) dL_law_497 (by decide) ?_
    refine J_iadd dL_law_498 ?_
    refine J_sld hs9 dL_law_499 hin2 ?_
    refine Jw_callV2 (q9 := (RX7, TX7, 34)) moX7_alike jw_ml_L_59 jw_im_X7_alike jw_se_X7_alike hm rfl rfl dL_law_500 (w_X7_alike_bad 999 _ am (xs (i + 1).toNatClampNeg) (xs (i + 2).toNatClampNeg) k gr mn sp rw px py pz GA MN SP RW PX PY PZ (by decide) hW hm rk rgr rmn rsp q4 q6 q7 q8 rGA rMN rSP b4 b6 b7 b8 (fun q => cX ⟨q.2.2.1, q.2.2.2⟩)) (by decide) (Nat.zero_le _) (Nat.zero_le _) (Nat.le_of_ble_eq_true rfl) (fun r V3 h => ?_)
    obtain ⟨⟨y2, rfl, -, -, hy2⟩, hE⟩ := h
    have hE := hE.symm
    subst hE
    refine J_pop dL_law_503 rfl ?_
    refine J_goto (tgt := 909) dL_law_504 (by decide) ?_
    exact J.less (kc' := 5 * N + 8 * G2) (ks' := 491 * N + 20013 * G2) (by omega) (by omega) (kk _ G2 hW hx hm hg hr hG2)
  have hw9B : (((xs (i + 2).toNatClampNeg).toInt.toNat : Nat) : Int) < k.toInt := by omega
  obtain ⟨SB, XB, YB, ZB, hfoB, hrowB, hwvB⟩ := hrows (xs (i + 2).toNatClampNeg).toInt.toNat hw9B
  obtain ⟨⟨MB, mMB, eMB⟩, ⟨gB, mgB, egB⟩, ⟨nB, nnB, enB⟩, s1B, s2B, s3B, s4B, a1B, a2B, a3B, a4B⟩ := id hrowB
  obtain rfl := jI_inj.mp egB
  obtain rfl := jI_inj.mp enB
  obtain ⟨hg9B, hn9B, hstB, hjvB, havB⟩ := id hwvB
  have hTSB : ∀ q : Nat, q < (MN (xs (i + 2).toNatClampNeg).toInt.toNat).toInt.toNat → (SB q).toInt = (SP (60 * (xs (i + 2).toNatClampNeg).toInt.toNat + q)).toInt := fun q hq => (hstB q (by omega)).1
  have hSrB : ∀ j : Nat, (j : Int) < (MN (xs (i + 2).toNatClampNeg).toInt.toNat).toInt → 0 ≤ (SB j).toInt ∧ (SB j).toInt < jdir (GA (xs (i + 2).toNatClampNeg).toInt.toNat).toInt := fun j hj => by rw [(hstB j hj).1]; exact (hstB j hj).2
  have hPrB : ∀ j : Nat, (j : Int) < (MN (xs (i + 2).toNatClampNeg).toInt.toNat).toInt → 0 ≤ (SP (60 * (xs (i + 2).toNatClampNeg).toInt.toNat + j)).toInt ∧ (SP (60 * (xs (i + 2).toNatClampNeg).toInt.toNat + j)).toInt < jdir (GA (xs (i + 2).toNatClampNeg).toInt.toNat).toInt := fun j hj => (hstB j hj).2
  have hjvSB := hjvB.congr (U := fun q => (SB q).toInt) (fun q hq => (hTSB q hq).symm)
  have havSB := havB.congr (U := fun q => (SB q).toInt) (fun q hq => (hTSB q hq).symm)
  by_cases cE : (GA ((xs (i + 1).toNatClampNeg).toInt.toNat)).toInt = (GA ((xs (i + 2).toNatClampNeg).toInt.toNat)).toInt
  rotate_left
  · skip
    refine Jw_callV2 (q9 := (RX6, TX6, 7)) moX6_alike jw_ml_L_56 jw_im_X6_alike jw_se_X6_alike hx rfl rfl dL_law_485 (w_X6_alike_dif 999 _ ax (xs (i + 1).toNatClampNeg) (xs (i + 2).toNatClampNeg) k md f (A ((xs (i + 1).toNatClampNeg).toInt.toNat)).1 M (GA ((xs (i + 1).toNatClampNeg).toInt.toNat)) (MN ((xs (i + 1).toNatClampNeg).toInt.toNat)) (A ((xs (i + 1).toNatClampNeg).toInt.toNat)).2.1 (A ((xs (i + 1).toNatClampNeg).toInt.toNat)).2.2.1 (A ((xs (i + 1).toNatClampNeg).toInt.toNat)).2.2.2.1 (A ((xs (i + 1).toNatClampNeg).toInt.toNat)).2.2.2.2 S X Y Z (A ((xs (i + 2).toNatClampNeg).toInt.toNat)).1 MB (GA ((xs (i + 2).toNatClampNeg).toInt.toNat)) (MN ((xs (i + 2).toNatClampNeg).toInt.toNat)) (A ((xs (i + 2).toNatClampNeg).toInt.toNat)).2.1 (A ((xs (i + 2).toNatClampNeg).toInt.toNat)).2.2.1 (A ((xs (i + 2).toNatClampNeg).toInt.toNat)).2.2.2.1 (A ((xs (i + 2).toNatClampNeg).toInt.toNat)).2.2.2.2 SB XB YB ZB (by decide) hW hx ck cmd cA mM mg nn s1 s2 s3 s4 a1 a2 a3 a4 eM hn9.2 hfo mMB mgB nnB s1B s2B s3B s4B a1B a2B a3B a4B eMB hn9B.2 hfoB cW.1 cW.2 cX.1 cX.2 cE) (by decide) (Nat.zero_le _) (Nat.zero_le _) (Nat.le_of_ble_eq_true rfl) (fun r V4 h => ?_)
    obtain ⟨⟨y1, rfl, -, -, hy1⟩, hE⟩ := h
    have hE := hE.symm
    subst hE
    refine J.less (kc' := 5 * N + 8 * G) (ks' := 491 * N + 20013 * G) (by omega) (by omega) ?_
    obtain ⟨G2, hGe⟩ : ∃ G2 : Nat, G2 = G := ⟨_, rfl⟩
    have hG2 : G2 ≤ G := Nat.le_of_eq hGe
    rw [← hGe] at hg ⊢
    refine J_pop dL_law_488 rfl ?_
    refine J_aload_n dL_law_489 rfl ?_
    refine J_aload_n dL_law_490 rfl ?_
    refine J_iload_n dL_law_491 rfl ?_
    refine J_iconst (v := 1) dL_law_492 (by decide) ?_
    refine J_iadd dL_law_493 ?_
    refine J_sld hs9 dL_law_494 hin1 ?_
    refine J_aload_n dL_law_495 rfl ?_
    refine J_iload_n dL_law_496 rfl ?_
    refine J_iconst (v := 2) dL_law_497 (by decide) ?_
    refine J_iadd dL_law_498 ?_
    refine J_sld hs9 dL_law_499 hin2 ?_
    refine Jw_callV2 (q9 := (RX7, TX7, 34)) moX7_alike jw_ml_L_59 jw_im_X7_alike jw_se_X7_alike hm rfl rfl dL_law_500 (w_X7_alike_dif 999 _ am (xs (i + 1).toNatClampNeg) (xs (i + 2).toNatClampNeg) k gr mn sp rw px py pz GA MN SP RW PX PY PZ (by decide) hW hm rk rgr rmn rsp q4 q6 q7 q8 rGA rMN rSP b4 b6 b7 b8 cW.1 cW.2 cX.1 cX.2 cE) (by decide) (Nat.zero_le _) (Nat.zero_le _) (Nat.le_of_ble_eq_true rfl) (fun r V3 h => ?_)
    obtain ⟨⟨y2, rfl, -, -, hy2⟩, hE⟩ := h
    have hE := hE.symm
    subst hE
    refine J_pop dL_law_503 rfl ?_
    refine J_goto (tgt := 909) dL_law_504 (by decide) ?_
    exact J.less (kc' := 5 * N + 8 * G2) (ks' := 491 * N + 20013 * G2) (by omega) (by omega) (kk _ G2 hW hx hm hg hr hG2)
  obtain ⟨fm, oh, FM, OH, q9, q10, b9, b10⟩ := WT_forms hW hm
  by_cases cN : (MN ((xs (i + 1).toNatClampNeg).toInt.toNat)).toInt = (MN ((xs (i + 2).toNatClampNeg).toInt.toNat)).toInt
  rotate_left
  · skip
    refine Jw_callV2 (q9 := (RX6, TX6, 7)) moX6_alike jw_ml_L_56 jw_im_X6_alike jw_se_X6_alike hx rfl rfl dL_law_485 (w_X6_alike_size 999 _ ax (xs (i + 1).toNatClampNeg) (xs (i + 2).toNatClampNeg) k md f (A ((xs (i + 1).toNatClampNeg).toInt.toNat)).1 M (GA ((xs (i + 1).toNatClampNeg).toInt.toNat)) (MN ((xs (i + 1).toNatClampNeg).toInt.toNat)) (A ((xs (i + 1).toNatClampNeg).toInt.toNat)).2.1 (A ((xs (i + 1).toNatClampNeg).toInt.toNat)).2.2.1 (A ((xs (i + 1).toNatClampNeg).toInt.toNat)).2.2.2.1 (A ((xs (i + 1).toNatClampNeg).toInt.toNat)).2.2.2.2 S X Y Z (A ((xs (i + 2).toNatClampNeg).toInt.toNat)).1 MB (GA ((xs (i + 2).toNatClampNeg).toInt.toNat)) (MN ((xs (i + 2).toNatClampNeg).toInt.toNat)) (A ((xs (i + 2).toNatClampNeg).toInt.toNat)).2.1 (A ((xs (i + 2).toNatClampNeg).toInt.toNat)).2.2.1 (A ((xs (i + 2).toNatClampNeg).toInt.toNat)).2.2.2.1 (A ((xs (i + 2).toNatClampNeg).toInt.toNat)).2.2.2.2 SB XB YB ZB (by decide) hW hx ck cmd cA mM mg nn s1 s2 s3 s4 a1 a2 a3 a4 eM hn9.2 hfo mMB mgB nnB s1B s2B s3B s4B a1B a2B a3B a4B eMB hn9B.2 hfoB cW.1 cW.2 cX.1 cX.2 cE cN) (by decide) (Nat.zero_le _) (Nat.zero_le _) (Nat.le_of_ble_eq_true rfl) (fun r V4 h => ?_)
    obtain ⟨⟨y1, rfl, -, -, hy1⟩, hE⟩ := h
    have hE := hE.symm
    subst hE
    refine J.less (kc' := 5 * N + 8 * G) (ks' := 491 * N + 20013 * G) (by omega) (by omega) ?_
    obtain ⟨G2, hGe⟩ : ∃ G2 : Nat, G2 = G := ⟨_, rfl⟩
    have hG2 : G2 ≤ G := Nat.le_of_eq hGe
    rw [← hGe] at hg ⊢
    refine J_pop dL_law_488 rfl ?_
    refine J_aload_n dL_law_489 rfl ?_
    refine J_aload_n dL_law_490 rfl ?_
    refine J_iload_n dL_law_491 rfl ?_
    refine J_iconst (v := 1) dL_law_492 (by decide) ?_
    refine J_iadd dL_law_493 ?_
    refine J_sld hs9 dL_law_494 hin1 ?_
    refine J_aload_n dL_law_495 rfl ?_
    refine J_iload_n dL_law_496 rfl ?_
    refine J_iconst (v := 2) dL_law_497 (by decide) ?_
    refine J_iadd dL_law_498 ?_
    refine J_sld hs9 dL_law_499 hin2 ?_
    refine Jw_callV2 (q9 := (RX7, TX7, 34)) moX7_alike jw_ml_L_59 jw_im_X7_alike jw_se_X7_alike hm rfl rfl dL_law_500 (w_X7_alike_ok 999 _ am (xs (i + 1).toNatClampNeg) (xs (i + 2).toNatClampNeg) k gr mn sp rw fm oh GA MN SP RW FM OH (by decide) hW hm rk rgr rmn rsp q4 q9 q10 rGA rMN rSP b4 b9 b10 cW.1 cW.2 cX.1 cX.2 cE hPr hPrB) (by decide) (Nat.zero_le _) (Nat.zero_le _) (Nat.le_of_ble_eq_true rfl) (fun r V3 h => ?_)
    obtain ⟨⟨hW, he5, y2, rfl, -, -, hy2⟩, hkp⟩ := h
    have hx := hx.mono he5.1
    have hm := hm.mono he5.1
    have hg := hg.keep he5 (jnot_of rfl) (jnot_of rfl)
    have hr := hr.ref he5 hkp (by decide) (jdis_of rfl)
    have hyA : y1.toInt = y2.toInt := by
      rcases hy2 with q2 | q2
      · first | exact absurd q2.2.1 cN | (rcases hy1 with q1 | q1; exact q1.1.trans q2.1.symm; exact absurd (hal.mpr q2.2) q1.2)
      · first | omega | (rcases hy1 with q1 | q1; exact absurd (hal.mp q1.2) q2.2; exact q1.1.trans q2.1.symm)
    refine J_pop dL_law_503 rfl ?_
    refine J_goto (tgt := 909) dL_law_504 (by decide) ?_
    exact J.less (kc' := 5 * N + 8 * G2) (ks' := 491 * N + 20013 * G2) (by omega) (by omega) (kk _ G2 hW hx hm hg hr hG2)
  obtain ⟨o1, o2, ho1, ho2, hone⟩ := id hff
  obtain ⟨OF, d1⟩ := WT_form7 hW ho1 (Or.inl rfl)
  obtain ⟨OT, d2⟩ := WT_form7 hW ho2 (Or.inr rfl)
  refine Jw_callV2 (q9 := (RX6, TX6, 7)) moX6_alike jw_ml_L_56 jw_im_X6_alike jw_se_X6_alike hx rfl rfl dL_law_485 (w_X6_alike_ok 999 _ ax (xs (i + 1).toNatClampNeg) (xs (i + 2).toNatClampNeg) k md o1 o2 f (A ((xs (i + 1).toNatClampNeg).toInt.toNat)).1 M (GA ((xs (i + 1).toNatClampNeg).toInt.toNat)) (MN ((xs (i + 1).toNatClampNeg).toInt.toNat)) (A ((xs (i + 1).toNatClampNeg).toInt.toNat)).2.1 (A ((xs (i + 1).toNatClampNeg).toInt.toNat)).2.2.1 (A ((xs (i + 1).toNatClampNeg).toInt.toNat)).2.2.2.1 (A ((xs (i + 1).toNatClampNeg).toInt.toNat)).2.2.2.2 S X Y Z (A ((xs (i + 2).toNatClampNeg).toInt.toNat)).1 MB (GA ((xs (i + 2).toNatClampNeg).toInt.toNat)) (MN ((xs (i + 2).toNatClampNeg).toInt.toNat)) (A ((xs (i + 2).toNatClampNeg).toInt.toNat)).2.1 (A ((xs (i + 2).toNatClampNeg).toInt.toNat)).2.2.1 (A ((xs (i + 2).toNatClampNeg).toInt.toNat)).2.2.2.1 (A ((xs (i + 2).toNatClampNeg).toInt.toNat)).2.2.2.2 SB XB YB ZB OF OT (by decide) hW hx ck cmd ho1 ho2 cA mM mg nn s1 s2 s3 s4 a1 a2 a3 a4 eM hn9.2 hfo mMB mgB nnB s1B s2B s3B s4B a1B a2B a3B a4B eMB hn9B.2 hfoB (fun b hb z => hone ((List.mem_singleton.mp z).symm.trans (List.mem_singleton.mp hb))) (fun b hb z => hone ((List.mem_singleton.mp hb).symm.trans (List.mem_singleton.mp z))) d1 d2 cW.1 cW.2 cX.1 cX.2 hg9.1 hg9.2 cE cN hSr hSrB) (by decide) (Nat.zero_le _) (Nat.zero_le _) (Nat.le_of_ble_eq_true rfl) (fun r V4 h => ?_)
  obtain ⟨⟨hW, he, y1, rfl, -, -, hy1⟩, hfp⟩ := h
  have hx := hx.mono he.1
  have hm := hm.mono he.1
  have hg := hg.keep he (jnot_of rfl) (jnot_of rfl)
  have rk := rk.keep he (jnot_of rfl)
  have rgr := rgr.mono he.1
  have rmn := rmn.mono he.1
  have rsp := rsp.mono he.1
  have q4 := q4.mono he.1
  have q6 := q6.mono he.1
  have q7 := q7.mono he.1
  have q8 := q8.mono he.1
  have rGA := he.2 _ _ rGA (jnot_of rfl)
  have rMN := he.2 _ _ rMN (jnot_of rfl)
  have rSP := he.2 _ _ rSP (jnot_of rfl)
  have b4 := he.2 _ _ b4 (jnot_of rfl)
  have b6 := he.2 _ _ b6 (jnot_of rfl)
  have b7 := he.2 _ _ b7 (jnot_of rfl)
  have b8 := he.2 _ _ b8 (jnot_of rfl)
  have q9 := q9.mono he.1
  have q10 := q10.mono he.1
  have b9 := he.2 _ _ b9 (jnot_of rfl)
  have b10 := he.2 _ _ b10 (jnot_of rfl)
  have hr := hr.own he (jdis_of rfl)
  have hal : (∀ j : Nat, j < (MN ((xs (i + 1).toNatClampNeg).toInt.toNat)).toInt.toNat → jbs (GA ((xs (i + 1).toNatClampNeg).toInt.toNat)).toInt (fun q => (S q).toInt) (MN ((xs (i + 1).toNatClampNeg).toInt.toNat)).toInt.toNat (2 * jtur (GA ((xs (i + 1).toNatClampNeg).toInt.toNat)).toInt).toNat j = jbs (GA ((xs (i + 1).toNatClampNeg).toInt.toNat)).toInt (fun q => (SB q).toInt) (MN ((xs (i + 1).toNatClampNeg).toInt.toNat)).toInt.toNat (2 * jtur (GA ((xs (i + 1).toNatClampNeg).toInt.toNat)).toInt).toNat j) ↔ ((MN ((xs (i + 1).toNatClampNeg).toInt.toNat)).toInt = (MN ((xs (i + 2).toNatClampNeg).toInt.toNat)).toInt ∧ ∀ j : Nat, j < (MN ((xs (i + 1).toNatClampNeg).toInt.toNat)).toInt.toNat → jbs (GA ((xs (i + 1).toNatClampNeg).toInt.toNat)).toInt (fun q => (SP (60 * ((xs (i + 1).toNatClampNeg).toInt.toNat) + q)).toInt) (MN ((xs (i + 1).toNatClampNeg).toInt.toNat)).toInt.toNat (2 * jtur (GA ((xs (i + 1).toNatClampNeg).toInt.toNat)).toInt).toNat j = jbs (GA ((xs (i + 1).toNatClampNeg).toInt.toNat)).toInt (fun q => (SP (60 * ((xs (i + 2).toNatClampNeg).toInt.toNat) + q)).toInt) (MN ((xs (i + 2).toNatClampNeg).toInt.toNat)).toInt.toNat (2 * jtur (GA ((xs (i + 1).toNatClampNeg).toInt.toNat)).toInt).toNat j) := by
    rw [← cN]
    exact ⟨fun z => ⟨rfl, fun j hj => by rw [← jbs_congr hTS _ j hj, ← jbs_congr (fun q hq => hTSB q (by omega)) _ j hj]; exact z j hj⟩, fun z j hj => by rw [jbs_congr hTS _ j hj, jbs_congr (fun q hq => hTSB q (by omega)) _ j hj]; exact z.2 j hj⟩
  refine J.less (kc' := 5 * N + 8 * G) (ks' := 491 * N + 20013 * G) (by omega) (by omega) ?_
  obtain ⟨G2, hGe⟩ : ∃ G2 : Nat, G2 = G := ⟨_, rfl⟩
  have hG2 : G2 ≤ G := Nat.le_of_eq hGe
  rw [← hGe] at hg ⊢
  refine J_pop dL_law_488 rfl ?_
  refine J_aload_n dL_law_489 rfl ?_
  refine J_aload_n dL_law_490 rfl ?_
  refine J_iload_n dL_law_491 rfl ?_
  refine J_iconst (v := 1) dL_law_492 (by decide) ?_
  refine J_iadd dL_law_493 ?_
  refine J_sld hs9 dL_law_494 hin1 ?_
  refine J_aload_n dL_law_495 rfl ?_
  refine J_iload_n dL_law_496 rfl ?_
  refine J_iconst (v := 2) dL_law_497 (by decide) ?_
  refine J_iadd dL_law_498 ?_
  refine J_sld hs9 dL_law_499 hin2 ?_
  refine Jw_callV2 (q9 := (RX7, TX7, 34)) moX7_alike jw_ml_L_59 jw_im_X7_alike jw_se_X7_alike hm rfl rfl dL_law_500 (w_X7_alike_ok 999 _ am (xs (i + 1).toNatClampNeg) (xs (i + 2).toNatClampNeg) k gr mn sp rw fm oh GA MN SP RW FM OH (by decide) hW hm rk rgr rmn rsp q4 q9 q10 rGA rMN rSP b4 b9 b10 cW.1 cW.2 cX.1 cX.2 cE hPr hPrB) (by decide) (Nat.zero_le _) (Nat.zero_le _) (Nat.le_of_ble_eq_true rfl) (fun r V3 h => ?_)
  obtain ⟨⟨hW, he5, y2, rfl, -, -, hy2⟩, hkp⟩ := h
  have hx := hx.mono he5.1
  have hm := hm.mono he5.1
  have hg := hg.keep he5 (jnot_of rfl) (jnot_of rfl)
  have hr := hr.ref he5 hkp (by decide) (jdis_of rfl)
  have hyA : y1.toInt = y2.toInt := by
    rcases hy2 with q2 | q2
    · first | exact absurd q2.2.1 cN | (rcases hy1 with q1 | q1; exact q1.1.trans q2.1.symm; exact absurd (hal.mpr q2.2) q1.2)
    · first | omega | (rcases hy1 with q1 | q1; exact absurd (hal.mp q1.2) q2.2; exact q1.1.trans q2.1.symm)
  refine J_pop dL_law_503 rfl ?_
  refine J_goto (tgt := 909) dL_law_504 (by decide) ?_
  exact J.less (kc' := 5 * N + 8 * G2) (ks' := 491 * N + 20013 * G2) (by omega) (by omega) (kk _ G2 hW hx hm hg hr hG2)
set_option maxRecDepth 100000 in
set_option maxHeartbeats 4000000 in
theorem lawc_11 {tS : jTS} {b L : Nat} {xs : Nat → Int32} (hs9 : tS.2 = some (b, L, xs)) (V : jH) (ax am : Nat) (i : Int32) (G N : Nat) {Q : Option Value → jH → Prop} (hW : WT V) (hx : jis V (.inr 4) ax) (hm : jis V (.inr 5) am) (hg : jphi V ax G) (hr : jRL V ax am) (hin1 : vp_in (i + 1) L) (hin2 : vp_in (i + 2) L) (hin3 : vp_in (i + 3) L) (kk : ∀ (V2 : jH) (G2 : Nat), WT V2 → jis V2 (.inr 4) ax → jis V2 (.inr 5) am → jphi V2 ax G2 → jRL V2 ax am → G2 ≤ G → J tS mL_law 1000 909 [some (.ref b), some (.ref ax), some (.ref am), some (.int i)] [] V2 (5 * N + 8 * G2) (491 * N + 20013 * G2) Q) : J tS mL_law 1000 507 [some (.ref b), some (.ref ax), some (.ref am), some (.int i)] [] V (5 * (N + 1) + 8 * G) (491 * (N + 1) + 20013 * G) Q := by
  refine J_aload_n dL_law_507 rfl ?_
  refine J_aload_n dL_law_508 rfl ?_
  refine J_iload_n dL_law_509 rfl ?_
  refine J_iconst (v := 1) dL_law_510 (by decide) ?_
  refine J_iadd dL_law_511 ?_
  refine J_sld hs9 dL_law_512 hin1 ?_
  refine J_aload_n dL_law_513 rfl ?_
  refine J_iload_n dL_law_514 rfl ?_
  refine J_iconst (v := 2) dL_law_515 (by decide) ?_
  refine J_iadd dL_law_516 ?_
  refine J_sld hs9 dL_law_517 hin2 ?_
  have K : ∀ (V2 : jH) (G2 : Nat) (y1 : Int32), WT V2 → jis V2 (.inr 4) ax → jis V2 (.inr 5) am → jphi V2 ax G2 → jRL V2 ax am → G2 ≤ G → J tS mL_law 1000 521 [some (.ref b), some (.ref ax), some (.ref am), some (.int i)] [.int y1] V2 (5 * N + 8 * G2) (491 * N + 20013 * G2) Q := by
    intro V2 G2 y1 hW hx hm hg hr hG2
    refine J_pop dL_law_521 rfl ?_
    refine J_aload_n dL_law_522 rfl ?_
    refine J_aload_n dL_law_523 rfl ?_
    refine J_iload_n dL_law_524 rfl ?_
    refine J_iconst (v := 1) dL_law_525 (by decide) ?_
    refine J_iadd dL_law_526 ?_
    refine J_sld hs9 dL_law_527 hin1 ?_
    refine J_aload_n dL_law_528 rfl ?_
    refine J_iload_n dL_law_529 rfl ?_
    refine J_iconst (v := 2) dL_law_530 (by decide) ?_
    refine J_iadd dL_law_531 ?_
    refine J_sld hs9 dL_law_532 hin2 ?_
    refine Jw_callV2 (q9 := (RX7, TX7, 34)) moX7_walks jw_ml_L_63 jw_im_X7_walks jw_se_X7_walks hm rfl rfl dL_law_533 (w_X7_walks 999 _ am (xs (i + 1).toNatClampNeg) (xs (i + 2).toNatClampNeg) (by decide) hW hm ) (by decide) (Nat.zero_le _) (Nat.zero_le _) (Nat.le_of_ble_eq_true rfl) (fun r V3 h => ?_)
    obtain ⟨⟨hW, he, y2, rfl, hy2⟩, hkp⟩ := h
    have hx := hx.mono he.1
    have hm := hm.mono he.1
    have hg := hg.keep he (jnot_of rfl) (jnot_of rfl)
    have hr := hr.ref he hkp (by decide) (jdis_of rfl)
    refine J_pop dL_law_536 rfl ?_
    refine J_goto (tgt := 909) dL_law_537 (by decide) ?_
    exact J.less (kc' := 5 * N + 8 * G2) (ks' := 491 * N + 20013 * G2) (by omega) (by omega) (kk _ G2 hW hx hm hg hr hG2)
  by_cases c1 : (xs (i + 1).toNatClampNeg) < 0
  · refine Jw_callV2 (q9 := (RX6, TX6, 7)) moX6_walks jw_ml_L_60 jw_im_X6_walks jw_se_X6_walks hx rfl rfl dL_law_518 (w_X6_walks_bad 999 _ ax _ _ (by decide) hW hx (Or.inl c1)) (by decide) (Nat.zero_le _) (Nat.zero_le _) (Nat.le_of_ble_eq_true rfl) (fun r V3 h => ?_)
    obtain ⟨⟨y1, rfl, hy1⟩, hE⟩ := h
    subst hE
    exact J.less (kc' := 5 * N + 8 * (G)) (ks' := 491 * N + 20013 * (G)) (by omega) (by omega) (K _ (G) _ hW hx hm hg hr (Nat.le_refl _))
  by_cases c2 : Int32.ofNat 4 ≤ (xs (i + 1).toNatClampNeg)
  · refine Jw_callV2 (q9 := (RX6, TX6, 7)) moX6_walks jw_ml_L_60 jw_im_X6_walks jw_se_X6_walks hx rfl rfl dL_law_518 (w_X6_walks_bad 999 _ ax _ _ (by decide) hW hx (Or.inr (Or.inl c2))) (by decide) (Nat.zero_le _) (Nat.zero_le _) (Nat.le_of_ble_eq_true rfl) (fun r V3 h => ?_)
    obtain ⟨⟨y1, rfl, hy1⟩, hE⟩ := h
    subst hE
    exact J.less (kc' := 5 * N + 8 * (G)) (ks' := 491 * N + 20013 * (G)) (by omega) (by omega) (K _ (G) _ hW hx hm hg hr (Nat.le_refl _))
  by_cases c3 : (xs (i + 2).toNatClampNeg) < 0
  · refine Jw_callV2 (q9 := (RX6, TX6, 7)) moX6_walks jw_ml_L_60 jw_im_X6_walks jw_se_X6_walks hx rfl rfl dL_law_518 (w_X6_walks_bad 999 _ ax _ _ (by decide) hW hx (Or.inr (Or.inr (Or.inl c3)))) (by decide) (Nat.zero_le _) (Nat.zero_le _) (Nat.le_of_ble_eq_true rfl) (fun r V3 h => ?_)
    obtain ⟨⟨y1, rfl, hy1⟩, hE⟩ := h
    subst hE
    exact J.less (kc' := 5 * N + 8 * (G)) (ks' := 491 * N + 20013 * (G)) (by omega) (by omega) (K _ (G) _ hW hx hm hg hr (Nat.le_refl _))
  by_cases c4 : (xs (i + 2).toNatClampNeg) ≤ 20
  rotate_left
  · refine Jw_callV2 (q9 := (RX6, TX6, 7)) moX6_walks jw_ml_L_60 jw_im_X6_walks jw_se_X6_walks hx rfl rfl dL_law_518 (w_X6_walks_bad 999 _ ax _ _ (by decide) hW hx (Or.inr (Or.inr (Or.inr c4)))) (by decide) (Nat.zero_le _) (Nat.zero_le _) (Nat.le_of_ble_eq_true rfl) (fun r V3 h => ?_)
    obtain ⟨⟨y1, rfl, hy1⟩, hE⟩ := h
    subst hE
    exact J.less (kc' := 5 * N + 8 * (G)) (ks' := 491 * N + 20013 * (G)) (by omega) (by omega) (K _ (G) _ hW hx hm hg hr (Nat.le_refl _))
  obtain ⟨fs, tl, f, g, hO, hF, hA, hgs, hsum⟩ := id hg
  obtain ⟨j, hj, hgj⟩ := vp_in_of (vp_in_g c1 c2 (by decide)) (by decide)
  cases hf : f j with
  | none =>
    have hroom := jg_none hgs hsum hj hf
    refine Jw_callV2 (q9 := (RX6, TX6, 7)) moX6_walks jw_ml_L_60 jw_im_X6_walks jw_se_X6_walks hx rfl rfl dL_law_518 (w_X6_walks_new 999 _ ax _ _ fs tl f j (by decide) hW hx hO hF hA hgj hj hf c1 c2 c3 c4) (by decide) (by omega) (by omega) (Nat.le_of_ble_eq_true rfl) (fun r V3 h => ?_)
    obtain ⟨hW2, he, ⟨y1, rfl, hy1⟩, f2, hA2, h2, h3⟩ := h
    obtain ⟨hG2, hg2⟩ := jphi.fresh hO hF hA2 hgs hsum he.1 (jle9.of he (jnot_of rfl)) hW2 hj hf h2 h3
    exact J.less (kc' := 5 * N + 8 * (G - 2)) (ks' := 491 * N + 20013 * (G - 2)) (by omega) (by omega) (K _ (G - 2) _ hW2 (hx.mono he.1) (hm.mono he.1) hg2 (hr.own he (jdis_of rfl)) (by omega))
  | some t =>
    refine Jw_callV2 (q9 := (RX6, TX6, 7)) moX6_walks jw_ml_L_60 jw_im_X6_walks jw_se_X6_walks hx rfl rfl dL_law_518 (w_X6_walks_old 999 _ ax _ _ fs tl f (by decide) hW hx hO hF hA (fun j2 q1 q2 => ⟨t, by rw [jnI_eq q1 hgj q2 hj]; exact hf⟩) c1 c2 c3 c4) (by decide) (Nat.zero_le _) (Nat.zero_le _) (Nat.le_of_ble_eq_true rfl) (fun r V3 h => ?_)
    obtain ⟨hW2, he, y1, rfl, hy1⟩ := h
    exact J.less (kc' := 5 * N + 8 * (G)) (ks' := 491 * N + 20013 * (G)) (by omega) (by omega) (K _ (G) _ hW2 (hx.mono he.1) (hm.mono he.1) (hg.keep he (jnot_of rfl) (jnot_of rfl)) (hr.own he (jdis_of rfl)) (Nat.le_refl _))
set_option maxRecDepth 100000 in
set_option maxHeartbeats 4000000 in
theorem lawc_12 {tS : jTS} {b L : Nat} {xs : Nat → Int32} (hs9 : tS.2 = some (b, L, xs)) (V : jH) (ax am : Nat) (i : Int32) (G N : Nat) {Q : Option Value → jH → Prop} (hW : WT V) (hx : jis V (.inr 4) ax) (hm : jis V (.inr 5) am) (hg : jphi V ax G) (hr : jRL V ax am) (hin1 : vp_in (i + 1) L) (hin2 : vp_in (i + 2) L) (hin3 : vp_in (i + 3) L) (kk : ∀ (V2 : jH) (G2 : Nat), WT V2 → jis V2 (.inr 4) ax → jis V2 (.inr 5) am → jphi V2 ax G2 → jRL V2 ax am → G2 ≤ G → J tS mL_law 1000 909 [some (.ref b), some (.ref ax), some (.ref am), some (.int i)] [] V2 (5 * N + 8 * G2) (491 * N + 20013 * G2) Q) : J tS mL_law 1000 540 [some (.ref b), some (.ref ax), some (.ref am), some (.int i)] [] V (5 * (N + 1) + 8 * G) (491 * (N + 1) + 20013 * G) Q := by
  refine J_aload_n dL_law_540 rfl ?_
  refine J_aload_n dL_law_541 rfl ?_
  refine J_iload_n dL_law_542 rfl ?_
  refine J_iconst (v := 1) dL_law_543 (by decide) ?_
  refine J_iadd dL_law_544 ?_
  refine J_sld hs9 dL_law_545 hin1 ?_
  refine J_aload_n dL_law_546 rfl ?_
  refine J_iload_n dL_law_547 rfl ?_
  refine J_iconst (v := 2) dL_law_548 (by decide) ?_
  refine J_iadd dL_law_549 ?_
  refine J_sld hs9 dL_law_550 hin2 ?_
  have K : ∀ (V2 : jH) (G2 : Nat) (y1 : Int64), WT V2 → jis V2 (.inr 4) ax → jis V2 (.inr 5) am → jphi V2 ax G2 → jRL V2 ax am → G2 ≤ G → J tS mL_law 1000 554 [some (.ref b), some (.ref ax), some (.ref am), some (.int i)] [.long y1] V2 (5 * N + 8 * G2) (491 * N + 20013 * G2) Q := by
    intro V2 G2 y1 hW hx hm hg hr hG2
    refine J_pop2L dL_law_554 rfl ?_
    refine J_aload_n dL_law_555 rfl ?_
    refine J_aload_n dL_law_556 rfl ?_
    refine J_iload_n dL_law_557 rfl ?_
    refine J_iconst (v := 1) dL_law_558 (by decide) ?_
    refine J_iadd dL_law_559 ?_
    refine J_sld hs9 dL_law_560 hin1 ?_
    refine J_aload_n dL_law_561 rfl ?_
    refine J_iload_n dL_law_562 rfl ?_
    refine J_iconst (v := 2) dL_law_563 (by decide) ?_
    refine J_iadd dL_law_564 ?_
    refine J_sld hs9 dL_law_565 hin2 ?_
    refine Jw_callV2 (q9 := (RX7, TX7, 34)) moX7_squares jw_ml_L_68 jw_im_X7_squares jw_se_X7_squares hm rfl rfl dL_law_566 (w_X7_squares 999 _ am (xs (i + 1).toNatClampNeg) (xs (i + 2).toNatClampNeg) (by decide) hW hm ) (by decide) (Nat.zero_le _) (Nat.zero_le _) (Nat.le_of_ble_eq_true rfl) (fun r V3 h => ?_)
    obtain ⟨⟨hW, he, l2, rfl⟩, hkp⟩ := h
    have hx := hx.mono he.1
    have hm := hm.mono he.1
    have hg := hg.keep he (jnot_of rfl) (jnot_of rfl)
    have hr := hr.ref he hkp (by decide) (jdis_of rfl)
    refine J_pop2L dL_law_569 rfl ?_
    refine J_goto (tgt := 909) dL_law_570 (by decide) ?_
    exact J.less (kc' := 5 * N + 8 * G2) (ks' := 491 * N + 20013 * G2) (by omega) (by omega) (kk _ G2 hW hx hm hg hr hG2)
  by_cases c1 : (xs (i + 1).toNatClampNeg) < 0
  · refine Jw_callV2 (q9 := (RX6, TX6, 7)) moX6_squares jw_ml_L_64 jw_im_X6_squares jw_se_X6_squares hx rfl rfl dL_law_551 (w_X6_squares_bad 999 _ ax _ _ (by decide) hW hx (Or.inl c1)) (by decide) (Nat.zero_le _) (Nat.zero_le _) (Nat.le_of_ble_eq_true rfl) (fun r V3 h => ?_)
    obtain ⟨⟨y1, rfl⟩, hE⟩ := h
    subst hE
    exact J.less (kc' := 5 * N + 8 * (G)) (ks' := 491 * N + 20013 * (G)) (by omega) (by omega) (K _ (G) _ hW hx hm hg hr (Nat.le_refl _))
  by_cases c2 : Int32.ofNat 4 ≤ (xs (i + 1).toNatClampNeg)
  · refine Jw_callV2 (q9 := (RX6, TX6, 7)) moX6_squares jw_ml_L_64 jw_im_X6_squares jw_se_X6_squares hx rfl rfl dL_law_551 (w_X6_squares_bad 999 _ ax _ _ (by decide) hW hx (Or.inr (Or.inl c2))) (by decide) (Nat.zero_le _) (Nat.zero_le _) (Nat.le_of_ble_eq_true rfl) (fun r V3 h => ?_)
    obtain ⟨⟨y1, rfl⟩, hE⟩ := h
    subst hE
    exact J.less (kc' := 5 * N + 8 * (G)) (ks' := 491 * N + 20013 * (G)) (by omega) (by omega) (K _ (G) _ hW hx hm hg hr (Nat.le_refl _))
  by_cases c3 : (xs (i + 2).toNatClampNeg) < 0
  · refine Jw_callV2 (q9 := (RX6, TX6, 7)) moX6_squares jw_ml_L_64 jw_im_X6_squares jw_se_X6_squares hx rfl rfl dL_law_551 (w_X6_squares_bad 999 _ ax _ _ (by decide) hW hx (Or.inr (Or.inr (Or.inl c3)))) (by decide) (Nat.zero_le _) (Nat.zero_le _) (Nat.le_of_ble_eq_true rfl) (fun r V3 h => ?_)
    obtain ⟨⟨y1, rfl⟩, hE⟩ := h
    subst hE
    exact J.less (kc' := 5 * N + 8 * (G)) (ks' := 491 * N + 20013 * (G)) (by omega) (by omega) (K _ (G) _ hW hx hm hg hr (Nat.le_refl _))
  by_cases c4 : (xs (i + 2).toNatClampNeg) ≤ 20
  rotate_left
  · refine Jw_callV2 (q9 := (RX6, TX6, 7)) moX6_squares jw_ml_L_64 jw_im_X6_squares jw_se_X6_squares hx rfl rfl dL_law_551 (w_X6_squares_bad 999 _ ax _ _ (by decide) hW hx (Or.inr (Or.inr (Or.inr c4)))) (by decide) (Nat.zero_le _) (Nat.zero_le _) (Nat.le_of_ble_eq_true rfl) (fun r V3 h => ?_)
    obtain ⟨⟨y1, rfl⟩, hE⟩ := h
    subst hE
    exact J.less (kc' := 5 * N + 8 * (G)) (ks' := 491 * N + 20013 * (G)) (by omega) (by omega) (K _ (G) _ hW hx hm hg hr (Nat.le_refl _))
  obtain ⟨fs, tl, f, g, hO, hF, hA, hgs, hsum⟩ := id hg
  obtain ⟨j, hj, hgj⟩ := vp_in_of (vp_in_g c1 c2 (by decide)) (by decide)
  cases hf : f j with
  | none =>
    have hroom := jg_none hgs hsum hj hf
    refine Jw_callV2 (q9 := (RX6, TX6, 7)) moX6_squares jw_ml_L_64 jw_im_X6_squares jw_se_X6_squares hx rfl rfl dL_law_551 (w_X6_squares_new 999 _ ax _ _ fs tl f j (by decide) hW hx hO hF hA hgj hj hf c1 c2 c3 c4) (by decide) (by omega) (by omega) (Nat.le_of_ble_eq_true rfl) (fun r V3 h => ?_)
    obtain ⟨hW2, he, ⟨y1, rfl⟩, f2, hA2, h2, h3⟩ := h
    obtain ⟨hG2, hg2⟩ := jphi.fresh hO hF hA2 hgs hsum he.1 (jle9.of he (jnot_of rfl)) hW2 hj hf h2 h3
    exact J.less (kc' := 5 * N + 8 * (G - 2)) (ks' := 491 * N + 20013 * (G - 2)) (by omega) (by omega) (K _ (G - 2) _ hW2 (hx.mono he.1) (hm.mono he.1) hg2 (hr.own he (jdis_of rfl)) (by omega))
  | some t =>
    refine Jw_callV2 (q9 := (RX6, TX6, 7)) moX6_squares jw_ml_L_64 jw_im_X6_squares jw_se_X6_squares hx rfl rfl dL_law_551 (w_X6_squares_old 999 _ ax _ _ fs tl f (by decide) hW hx hO hF hA (fun j2 q1 q2 => ⟨t, by rw [jnI_eq q1 hgj q2 hj]; exact hf⟩) c1 c2 c3 c4) (by decide) (Nat.zero_le _) (Nat.zero_le _) (Nat.le_of_ble_eq_true rfl) (fun r V3 h => ?_)
    obtain ⟨hW2, he, y1, rfl⟩ := h
    exact J.less (kc' := 5 * N + 8 * (G)) (ks' := 491 * N + 20013 * (G)) (by omega) (by omega) (K _ (G) _ hW2 (hx.mono he.1) (hm.mono he.1) (hg.keep he (jnot_of rfl) (jnot_of rfl)) (hr.own he (jdis_of rfl)) (Nat.le_refl _))
set_option maxRecDepth 100000 in
set_option maxHeartbeats 4000000 in
theorem lawc_13 {tS : jTS} {b L : Nat} {xs : Nat → Int32} (hs9 : tS.2 = some (b, L, xs)) (V : jH) (ax am : Nat) (i : Int32) (G N : Nat) {Q : Option Value → jH → Prop} (hW : WT V) (hx : jis V (.inr 4) ax) (hm : jis V (.inr 5) am) (hg : jphi V ax G) (hr : jRL V ax am) (hin1 : vp_in (i + 1) L) (hin2 : vp_in (i + 2) L) (hin3 : vp_in (i + 3) L) (kk : ∀ (V2 : jH) (G2 : Nat), WT V2 → jis V2 (.inr 4) ax → jis V2 (.inr 5) am → jphi V2 ax G2 → jRL V2 ax am → G2 ≤ G → J tS mL_law 1000 909 [some (.ref b), some (.ref ax), some (.ref am), some (.int i)] [] V2 (5 * N + 8 * G2) (491 * N + 20013 * G2) Q) : J tS mL_law 1000 573 [some (.ref b), some (.ref ax), some (.ref am), some (.int i)] [] V (5 * (N + 1) + 8 * G) (491 * (N + 1) + 20013 * G) Q := by
  refine J_aload_n dL_law_573 rfl ?_
  refine J_aload_n dL_law_574 rfl ?_
  refine J_iload_n dL_law_575 rfl ?_
  refine J_iconst (v := 1) dL_law_576 (by decide) ?_
  refine J_iadd dL_law_577 ?_
  refine J_sld hs9 dL_law_578 hin1 ?_
  refine J_aload_n dL_law_579 rfl ?_
  refine J_iload_n dL_law_580 rfl ?_
  refine J_iconst (v := 2) dL_law_581 (by decide) ?_
  refine J_iadd dL_law_582 ?_
  refine J_sld hs9 dL_law_583 hin2 ?_
  have K : ∀ (V2 : jH) (G2 : Nat) (y1 : Int32), WT V2 → jis V2 (.inr 4) ax → jis V2 (.inr 5) am → jphi V2 ax G2 → jRL V2 ax am → G2 ≤ G → J tS mL_law 1000 587 [some (.ref b), some (.ref ax), some (.ref am), some (.int i)] [.int y1] V2 (5 * N + 8 * G2) (491 * N + 20013 * G2) Q := by
    intro V2 G2 y1 hW hx hm hg hr hG2
    refine J_pop dL_law_587 rfl ?_
    refine J_aload_n dL_law_588 rfl ?_
    refine J_aload_n dL_law_589 rfl ?_
    refine J_iload_n dL_law_590 rfl ?_
    refine J_iconst (v := 1) dL_law_591 (by decide) ?_
    refine J_iadd dL_law_592 ?_
    refine J_sld hs9 dL_law_593 hin1 ?_
    refine J_aload_n dL_law_594 rfl ?_
    refine J_iload_n dL_law_595 rfl ?_
    refine J_iconst (v := 2) dL_law_596 (by decide) ?_
    refine J_iadd dL_law_597 ?_
    refine J_sld hs9 dL_law_598 hin2 ?_
    refine Jw_callV2 (q9 := (RX7, TX7, 34)) moX7_rings jw_ml_L_72 jw_im_X7_rings jw_se_X7_rings hm rfl rfl dL_law_599 (w_X7_rings 999 _ am (xs (i + 1).toNatClampNeg) (xs (i + 2).toNatClampNeg) (by decide) hW hm ) (by decide) (Nat.zero_le _) (Nat.zero_le _) (Nat.le_of_ble_eq_true rfl) (fun r V3 h => ?_)
    obtain ⟨⟨hW, he, y2, rfl, hy2⟩, hkp⟩ := h
    have hx := hx.mono he.1
    have hm := hm.mono he.1
    have hg := hg.keep he (jnot_of rfl) (jnot_of rfl)
    have hr := hr.ref he hkp (by decide) (jdis_of rfl)
    refine J_pop dL_law_602 rfl ?_
    refine J_goto (tgt := 909) dL_law_603 (by decide) ?_
    exact J.less (kc' := 5 * N + 8 * G2) (ks' := 491 * N + 20013 * G2) (by omega) (by omega) (kk _ G2 hW hx hm hg hr hG2)
  by_cases c1 : (xs (i + 1).toNatClampNeg) < 0
  · refine Jw_callV2 (q9 := (RX6, TX6, 7)) moX6_rings jw_ml_L_69 jw_im_X6_rings jw_se_X6_rings hx rfl rfl dL_law_584 (w_X6_rings_bad 999 _ ax _ _ (by decide) hW hx (Or.inl c1)) (by decide) (Nat.zero_le _) (Nat.zero_le _) (Nat.le_of_ble_eq_true rfl) (fun r V3 h => ?_)
    obtain ⟨⟨y1, rfl, hy1⟩, hE⟩ := h
    subst hE
    exact J.less (kc' := 5 * N + 8 * (G)) (ks' := 491 * N + 20013 * (G)) (by omega) (by omega) (K _ (G) _ hW hx hm hg hr (Nat.le_refl _))
  by_cases c2 : Int32.ofNat 4 ≤ (xs (i + 1).toNatClampNeg)
  · refine Jw_callV2 (q9 := (RX6, TX6, 7)) moX6_rings jw_ml_L_69 jw_im_X6_rings jw_se_X6_rings hx rfl rfl dL_law_584 (w_X6_rings_bad 999 _ ax _ _ (by decide) hW hx (Or.inr (Or.inl c2))) (by decide) (Nat.zero_le _) (Nat.zero_le _) (Nat.le_of_ble_eq_true rfl) (fun r V3 h => ?_)
    obtain ⟨⟨y1, rfl, hy1⟩, hE⟩ := h
    subst hE
    exact J.less (kc' := 5 * N + 8 * (G)) (ks' := 491 * N + 20013 * (G)) (by omega) (by omega) (K _ (G) _ hW hx hm hg hr (Nat.le_refl _))
  by_cases c3 : (xs (i + 2).toNatClampNeg) < 3
  · refine Jw_callV2 (q9 := (RX6, TX6, 7)) moX6_rings jw_ml_L_69 jw_im_X6_rings jw_se_X6_rings hx rfl rfl dL_law_584 (w_X6_rings_bad 999 _ ax _ _ (by decide) hW hx (Or.inr (Or.inr (Or.inl c3)))) (by decide) (Nat.zero_le _) (Nat.zero_le _) (Nat.le_of_ble_eq_true rfl) (fun r V3 h => ?_)
    obtain ⟨⟨y1, rfl, hy1⟩, hE⟩ := h
    subst hE
    exact J.less (kc' := 5 * N + 8 * (G)) (ks' := 491 * N + 20013 * (G)) (by omega) (by omega) (K _ (G) _ hW hx hm hg hr (Nat.le_refl _))
  by_cases c4 : (xs (i + 2).toNatClampNeg) ≤ 20
  rotate_left
  · refine Jw_callV2 (q9 := (RX6, TX6, 7)) moX6_rings jw_ml_L_69 jw_im_X6_rings jw_se_X6_rings hx rfl rfl dL_law_584 (w_X6_rings_bad 999 _ ax _ _ (by decide) hW hx (Or.inr (Or.inr (Or.inr c4)))) (by decide) (Nat.zero_le _) (Nat.zero_le _) (Nat.le_of_ble_eq_true rfl) (fun r V3 h => ?_)
    obtain ⟨⟨y1, rfl, hy1⟩, hE⟩ := h
    subst hE
    exact J.less (kc' := 5 * N + 8 * (G)) (ks' := 491 * N + 20013 * (G)) (by omega) (by omega) (K _ (G) _ hW hx hm hg hr (Nat.le_refl _))
  obtain ⟨fs, tl, f, g, hO, hF, hA, hgs, hsum⟩ := id hg
  obtain ⟨j, hj, hgj⟩ := vp_in_of (vp_in_g c1 c2 (by decide)) (by decide)
  cases hf : f j with
  | none =>
    have hroom := jg_none hgs hsum hj hf
    refine Jw_callV2 (q9 := (RX6, TX6, 7)) moX6_rings jw_ml_L_69 jw_im_X6_rings jw_se_X6_rings hx rfl rfl dL_law_584 (w_X6_rings_new 999 _ ax _ _ fs tl f j (by decide) hW hx hO hF hA hgj hj hf c1 c2 c3 c4) (by decide) (by omega) (by omega) (Nat.le_of_ble_eq_true rfl) (fun r V3 h => ?_)
    obtain ⟨hW2, he, ⟨y1, rfl, hy1⟩, f2, hA2, h2, h3⟩ := h
    obtain ⟨hG2, hg2⟩ := jphi.fresh hO hF hA2 hgs hsum he.1 (jle9.of he (jnot_of rfl)) hW2 hj hf h2 h3
    exact J.less (kc' := 5 * N + 8 * (G - 2)) (ks' := 491 * N + 20013 * (G - 2)) (by omega) (by omega) (K _ (G - 2) _ hW2 (hx.mono he.1) (hm.mono he.1) hg2 (hr.own he (jdis_of rfl)) (by omega))
  | some t =>
    refine Jw_callV2 (q9 := (RX6, TX6, 7)) moX6_rings jw_ml_L_69 jw_im_X6_rings jw_se_X6_rings hx rfl rfl dL_law_584 (w_X6_rings_old 999 _ ax _ _ fs tl f (by decide) hW hx hO hF hA (fun j2 q1 q2 => ⟨t, by rw [jnI_eq q1 hgj q2 hj]; exact hf⟩) c1 c2 c3 c4) (by decide) (Nat.zero_le _) (Nat.zero_le _) (Nat.le_of_ble_eq_true rfl) (fun r V3 h => ?_)
    obtain ⟨hW2, he, y1, rfl, hy1⟩ := h
    exact J.less (kc' := 5 * N + 8 * (G)) (ks' := 491 * N + 20013 * (G)) (by omega) (by omega) (K _ (G) _ hW2 (hx.mono he.1) (hm.mono he.1) (hg.keep he (jnot_of rfl) (jnot_of rfl)) (hr.own he (jdis_of rfl)) (Nat.le_refl _))
set_option maxRecDepth 100000 in
set_option maxHeartbeats 4000000 in
theorem lawc_14 {tS : jTS} {b L : Nat} {xs : Nat → Int32} (hs9 : tS.2 = some (b, L, xs)) (V : jH) (ax am : Nat) (i : Int32) (G N : Nat) {Q : Option Value → jH → Prop} (hW : WT V) (hx : jis V (.inr 4) ax) (hm : jis V (.inr 5) am) (hg : jphi V ax G) (hr : jRL V ax am) (hin1 : vp_in (i + 1) L) (hin2 : vp_in (i + 2) L) (hin3 : vp_in (i + 3) L) (kk : ∀ (V2 : jH) (G2 : Nat), WT V2 → jis V2 (.inr 4) ax → jis V2 (.inr 5) am → jphi V2 ax G2 → jRL V2 ax am → G2 ≤ G → J tS mL_law 1000 909 [some (.ref b), some (.ref ax), some (.ref am), some (.int i)] [] V2 (5 * N + 8 * G2) (491 * N + 20013 * G2) Q) : J tS mL_law 1000 606 [some (.ref b), some (.ref ax), some (.ref am), some (.int i)] [] V (5 * (N + 1) + 8 * G) (491 * (N + 1) + 20013 * G) Q := by
  refine J_aload_n dL_law_606 rfl ?_
  refine J_aload_n dL_law_607 rfl ?_
  refine J_iload_n dL_law_608 rfl ?_
  refine J_iconst (v := 1) dL_law_609 (by decide) ?_
  refine J_iadd dL_law_610 ?_
  refine J_sld hs9 dL_law_611 hin1 ?_
  refine J_aload_n dL_law_612 rfl ?_
  refine J_iload_n dL_law_613 rfl ?_
  refine J_iconst (v := 2) dL_law_614 (by decide) ?_
  refine J_iadd dL_law_615 ?_
  refine J_sld hs9 dL_law_616 hin2 ?_
  have K : ∀ (V2 : jH) (G2 : Nat) (y1 : Int32), WT V2 → jis V2 (.inr 4) ax → jis V2 (.inr 5) am → jphi V2 ax G2 → jRL V2 ax am → G2 ≤ G → J tS mL_law 1000 620 [some (.ref b), some (.ref ax), some (.ref am), some (.int i)] [.int y1] V2 (5 * N + 8 * G2) (491 * N + 20013 * G2) Q := by
    intro V2 G2 y1 hW hx hm hg hr hG2
    refine J_pop dL_law_620 rfl ?_
    refine J_aload_n dL_law_621 rfl ?_
    refine J_aload_n dL_law_622 rfl ?_
    refine J_iload_n dL_law_623 rfl ?_
    refine J_iconst (v := 1) dL_law_624 (by decide) ?_
    refine J_iadd dL_law_625 ?_
    refine J_sld hs9 dL_law_626 hin1 ?_
    refine J_aload_n dL_law_627 rfl ?_
    refine J_iload_n dL_law_628 rfl ?_
    refine J_iconst (v := 2) dL_law_629 (by decide) ?_
    refine J_iadd dL_law_630 ?_
    refine J_sld hs9 dL_law_631 hin2 ?_
    refine Jw_callV2 (q9 := (RX7, TX7, 34)) moX7_bridges jw_ml_L_76 jw_im_X7_bridges jw_se_X7_bridges hm rfl rfl dL_law_632 (w_X7_bridges 999 _ am (xs (i + 1).toNatClampNeg) (xs (i + 2).toNatClampNeg) (by decide) hW hm ) (by decide) (Nat.zero_le _) (Nat.zero_le _) (Nat.le_of_ble_eq_true rfl) (fun r V3 h => ?_)
    obtain ⟨⟨hW, he, y2, rfl, hy2⟩, hkp⟩ := h
    have hx := hx.mono he.1
    have hm := hm.mono he.1
    have hg := hg.keep he (jnot_of rfl) (jnot_of rfl)
    have hr := hr.ref he hkp (by decide) (jdis_of rfl)
    refine J_pop dL_law_635 rfl ?_
    refine J_goto (tgt := 909) dL_law_636 (by decide) ?_
    exact J.less (kc' := 5 * N + 8 * G2) (ks' := 491 * N + 20013 * G2) (by omega) (by omega) (kk _ G2 hW hx hm hg hr hG2)
  by_cases c1 : (xs (i + 1).toNatClampNeg) < 0
  · refine Jw_callV2 (q9 := (RX6, TX6, 7)) moX6_bridges jw_ml_L_73 jw_im_X6_bridges jw_se_X6_bridges hx rfl rfl dL_law_617 (w_X6_bridges_bad 999 _ ax _ _ (by decide) hW hx (Or.inl c1)) (by decide) (Nat.zero_le _) (Nat.zero_le _) (Nat.le_of_ble_eq_true rfl) (fun r V3 h => ?_)
    obtain ⟨⟨y1, rfl, hy1⟩, hE⟩ := h
    subst hE
    exact J.less (kc' := 5 * N + 8 * (G)) (ks' := 491 * N + 20013 * (G)) (by omega) (by omega) (K _ (G) _ hW hx hm hg hr (Nat.le_refl _))
  by_cases c2 : Int32.ofNat 4 ≤ (xs (i + 1).toNatClampNeg)
  · refine Jw_callV2 (q9 := (RX6, TX6, 7)) moX6_bridges jw_ml_L_73 jw_im_X6_bridges jw_se_X6_bridges hx rfl rfl dL_law_617 (w_X6_bridges_bad 999 _ ax _ _ (by decide) hW hx (Or.inr (Or.inl c2))) (by decide) (Nat.zero_le _) (Nat.zero_le _) (Nat.le_of_ble_eq_true rfl) (fun r V3 h => ?_)
    obtain ⟨⟨y1, rfl, hy1⟩, hE⟩ := h
    subst hE
    exact J.less (kc' := 5 * N + 8 * (G)) (ks' := 491 * N + 20013 * (G)) (by omega) (by omega) (K _ (G) _ hW hx hm hg hr (Nat.le_refl _))
  by_cases c3 : (xs (i + 2).toNatClampNeg) < 1
  · refine Jw_callV2 (q9 := (RX6, TX6, 7)) moX6_bridges jw_ml_L_73 jw_im_X6_bridges jw_se_X6_bridges hx rfl rfl dL_law_617 (w_X6_bridges_bad 999 _ ax _ _ (by decide) hW hx (Or.inr (Or.inr (Or.inl c3)))) (by decide) (Nat.zero_le _) (Nat.zero_le _) (Nat.le_of_ble_eq_true rfl) (fun r V3 h => ?_)
    obtain ⟨⟨y1, rfl, hy1⟩, hE⟩ := h
    subst hE
    exact J.less (kc' := 5 * N + 8 * (G)) (ks' := 491 * N + 20013 * (G)) (by omega) (by omega) (K _ (G) _ hW hx hm hg hr (Nat.le_refl _))
  by_cases c4 : (xs (i + 2).toNatClampNeg) ≤ 20
  rotate_left
  · refine Jw_callV2 (q9 := (RX6, TX6, 7)) moX6_bridges jw_ml_L_73 jw_im_X6_bridges jw_se_X6_bridges hx rfl rfl dL_law_617 (w_X6_bridges_bad 999 _ ax _ _ (by decide) hW hx (Or.inr (Or.inr (Or.inr c4)))) (by decide) (Nat.zero_le _) (Nat.zero_le _) (Nat.le_of_ble_eq_true rfl) (fun r V3 h => ?_)
    obtain ⟨⟨y1, rfl, hy1⟩, hE⟩ := h
    subst hE
    exact J.less (kc' := 5 * N + 8 * (G)) (ks' := 491 * N + 20013 * (G)) (by omega) (by omega) (K _ (G) _ hW hx hm hg hr (Nat.le_refl _))
  obtain ⟨fs, tl, f, g, hO, hF, hA, hgs, hsum⟩ := id hg
  obtain ⟨j, hj, hgj⟩ := vp_in_of (vp_in_g c1 c2 (by decide)) (by decide)
  cases hf : f j with
  | none =>
    have hroom := jg_none hgs hsum hj hf
    refine Jw_callV2 (q9 := (RX6, TX6, 7)) moX6_bridges jw_ml_L_73 jw_im_X6_bridges jw_se_X6_bridges hx rfl rfl dL_law_617 (w_X6_bridges_new 999 _ ax _ _ fs tl f j (by decide) hW hx hO hF hA hgj hj hf c1 c2 c3 c4) (by decide) (by omega) (by omega) (Nat.le_of_ble_eq_true rfl) (fun r V3 h => ?_)
    obtain ⟨hW2, he, ⟨y1, rfl, hy1⟩, f2, hA2, h2, h3⟩ := h
    obtain ⟨hG2, hg2⟩ := jphi.fresh hO hF hA2 hgs hsum he.1 (jle9.of he (jnot_of rfl)) hW2 hj hf h2 h3
    exact J.less (kc' := 5 * N + 8 * (G - 2)) (ks' := 491 * N + 20013 * (G - 2)) (by omega) (by omega) (K _ (G - 2) _ hW2 (hx.mono he.1) (hm.mono he.1) hg2 (hr.own he (jdis_of rfl)) (by omega))
  | some t =>
    refine Jw_callV2 (q9 := (RX6, TX6, 7)) moX6_bridges jw_ml_L_73 jw_im_X6_bridges jw_se_X6_bridges hx rfl rfl dL_law_617 (w_X6_bridges_old 999 _ ax _ _ fs tl f (by decide) hW hx hO hF hA (fun j2 q1 q2 => ⟨t, by rw [jnI_eq q1 hgj q2 hj]; exact hf⟩) c1 c2 c3 c4) (by decide) (Nat.zero_le _) (Nat.zero_le _) (Nat.le_of_ble_eq_true rfl) (fun r V3 h => ?_)
    obtain ⟨hW2, he, y1, rfl, hy1⟩ := h
    exact J.less (kc' := 5 * N + 8 * (G)) (ks' := 491 * N + 20013 * (G)) (by omega) (by omega) (K _ (G) _ hW2 (hx.mono he.1) (hm.mono he.1) (hg.keep he (jnot_of rfl) (jnot_of rfl)) (hr.own he (jdis_of rfl)) (Nat.le_refl _))
set_option maxRecDepth 100000 in
set_option maxHeartbeats 4000000 in
theorem lawc_15 {tS : jTS} {b L : Nat} {xs : Nat → Int32} (hs9 : tS.2 = some (b, L, xs)) (V : jH) (ax am : Nat) (i : Int32) (G N : Nat) {Q : Option Value → jH → Prop} (hW : WT V) (hx : jis V (.inr 4) ax) (hm : jis V (.inr 5) am) (hg : jphi V ax G) (hr : jRL V ax am) (hin1 : vp_in (i + 1) L) (hin2 : vp_in (i + 2) L) (hin3 : vp_in (i + 3) L) (kk : ∀ (V2 : jH) (G2 : Nat), WT V2 → jis V2 (.inr 4) ax → jis V2 (.inr 5) am → jphi V2 ax G2 → jRL V2 ax am → G2 ≤ G → J tS mL_law 1000 909 [some (.ref b), some (.ref ax), some (.ref am), some (.int i)] [] V2 (5 * N + 8 * G2) (491 * N + 20013 * G2) Q) : J tS mL_law 1000 639 [some (.ref b), some (.ref ax), some (.ref am), some (.int i)] [] V (5 * (N + 1) + 8 * G) (491 * (N + 1) + 20013 * G) Q := by
  refine J_aload_n dL_law_639 rfl ?_
  refine J_aload_n dL_law_640 rfl ?_
  refine J_iload_n dL_law_641 rfl ?_
  refine J_iconst (v := 1) dL_law_642 (by decide) ?_
  refine J_iadd dL_law_643 ?_
  refine J_sld hs9 dL_law_644 hin1 ?_
  refine J_aload_n dL_law_645 rfl ?_
  refine J_iload_n dL_law_646 rfl ?_
  refine J_iconst (v := 2) dL_law_647 (by decide) ?_
  refine J_iadd dL_law_648 ?_
  refine J_sld hs9 dL_law_649 hin2 ?_
  have K : ∀ (V2 : jH) (G2 : Nat) (y1 : Int32), WT V2 → jis V2 (.inr 4) ax → jis V2 (.inr 5) am → jphi V2 ax G2 → jRL V2 ax am → G2 ≤ G → J tS mL_law 1000 653 [some (.ref b), some (.ref ax), some (.ref am), some (.int i)] [.int y1] V2 (5 * N + 8 * G2) (491 * N + 20013 * G2) Q := by
    intro V2 G2 y1 hW hx hm hg hr hG2
    refine J_pop dL_law_653 rfl ?_
    refine J_aload_n dL_law_654 rfl ?_
    refine J_aload_n dL_law_655 rfl ?_
    refine J_iload_n dL_law_656 rfl ?_
    refine J_iconst (v := 1) dL_law_657 (by decide) ?_
    refine J_iadd dL_law_658 ?_
    refine J_sld hs9 dL_law_659 hin1 ?_
    refine J_aload_n dL_law_660 rfl ?_
    refine J_iload_n dL_law_661 rfl ?_
    refine J_iconst (v := 2) dL_law_662 (by decide) ?_
    refine J_iadd dL_law_663 ?_
    refine J_sld hs9 dL_law_664 hin2 ?_
    refine Jw_callV2 (q9 := (RX7, TX7, 34)) moX7_forms jw_ml_L_80 jw_im_X7_forms jw_se_X7_forms hm rfl rfl dL_law_665 (w_X7_forms 999 _ am (xs (i + 1).toNatClampNeg) (xs (i + 2).toNatClampNeg) (by decide) hW hm ) (by decide) (Nat.zero_le _) (Nat.zero_le _) (Nat.le_of_ble_eq_true rfl) (fun r V3 h => ?_)
    obtain ⟨⟨hW, he, y2, rfl, hy2⟩, hkp⟩ := h
    have hx := hx.mono he.1
    have hm := hm.mono he.1
    have hg := hg.keep he (jnot_of rfl) (jnot_of rfl)
    have hr := hr.ref he hkp (by decide) (jdis_of rfl)
    refine J_pop dL_law_668 rfl ?_
    refine J_goto (tgt := 909) dL_law_669 (by decide) ?_
    exact J.less (kc' := 5 * N + 8 * G2) (ks' := 491 * N + 20013 * G2) (by omega) (by omega) (kk _ G2 hW hx hm hg hr hG2)
  by_cases c1 : (xs (i + 1).toNatClampNeg) < 0
  · refine Jw_callV2 (q9 := (RX6, TX6, 7)) moX6_forms jw_ml_L_77 jw_im_X6_forms jw_se_X6_forms hx rfl rfl dL_law_650 (w_X6_forms_bad 999 _ ax _ _ (by decide) hW hx (Or.inl c1)) (by decide) (Nat.zero_le _) (Nat.zero_le _) (Nat.le_of_ble_eq_true rfl) (fun r V3 h => ?_)
    obtain ⟨⟨y1, rfl, hy1⟩, hE⟩ := h
    subst hE
    exact J.less (kc' := 5 * N + 8 * (G)) (ks' := 491 * N + 20013 * (G)) (by omega) (by omega) (K _ (G) _ hW hx hm hg hr (Nat.le_refl _))
  by_cases c2 : Int32.ofNat 4 ≤ (xs (i + 1).toNatClampNeg)
  · refine Jw_callV2 (q9 := (RX6, TX6, 7)) moX6_forms jw_ml_L_77 jw_im_X6_forms jw_se_X6_forms hx rfl rfl dL_law_650 (w_X6_forms_bad 999 _ ax _ _ (by decide) hW hx (Or.inr (Or.inl c2))) (by decide) (Nat.zero_le _) (Nat.zero_le _) (Nat.le_of_ble_eq_true rfl) (fun r V3 h => ?_)
    obtain ⟨⟨y1, rfl, hy1⟩, hE⟩ := h
    subst hE
    exact J.less (kc' := 5 * N + 8 * (G)) (ks' := 491 * N + 20013 * (G)) (by omega) (by omega) (K _ (G) _ hW hx hm hg hr (Nat.le_refl _))
  by_cases c3 : (xs (i + 2).toNatClampNeg) < 0
  · refine Jw_callV2 (q9 := (RX6, TX6, 7)) moX6_forms jw_ml_L_77 jw_im_X6_forms jw_se_X6_forms hx rfl rfl dL_law_650 (w_X6_forms_bad 999 _ ax _ _ (by decide) hW hx (Or.inr (Or.inr (Or.inl c3)))) (by decide) (Nat.zero_le _) (Nat.zero_le _) (Nat.le_of_ble_eq_true rfl) (fun r V3 h => ?_)
    obtain ⟨⟨y1, rfl, hy1⟩, hE⟩ := h
    subst hE
    exact J.less (kc' := 5 * N + 8 * (G)) (ks' := 491 * N + 20013 * (G)) (by omega) (by omega) (K _ (G) _ hW hx hm hg hr (Nat.le_refl _))
  by_cases c4 : (xs (i + 2).toNatClampNeg) ≤ 20
  rotate_left
  · refine Jw_callV2 (q9 := (RX6, TX6, 7)) moX6_forms jw_ml_L_77 jw_im_X6_forms jw_se_X6_forms hx rfl rfl dL_law_650 (w_X6_forms_bad 999 _ ax _ _ (by decide) hW hx (Or.inr (Or.inr (Or.inr c4)))) (by decide) (Nat.zero_le _) (Nat.zero_le _) (Nat.le_of_ble_eq_true rfl) (fun r V3 h => ?_)
    obtain ⟨⟨y1, rfl, hy1⟩, hE⟩ := h
    subst hE
    exact J.less (kc' := 5 * N + 8 * (G)) (ks' := 491 * N + 20013 * (G)) (by omega) (by omega) (K _ (G) _ hW hx hm hg hr (Nat.le_refl _))
  obtain ⟨fs, tl, f, g, hO, hF, hA, hgs, hsum⟩ := id hg
  obtain ⟨j, hj, hgj⟩ := vp_in_of (vp_in_g c1 c2 (by decide)) (by decide)
  cases hf : f j with
  | none =>
    have hroom := jg_none hgs hsum hj hf
    refine Jw_callV2 (q9 := (RX6, TX6, 7)) moX6_forms jw_ml_L_77 jw_im_X6_forms jw_se_X6_forms hx rfl rfl dL_law_650 (w_X6_forms_new 999 _ ax _ _ fs tl f j (by decide) hW hx hO hF hA hgj hj hf c1 c2 c3 c4) (by decide) (by omega) (by omega) (Nat.le_of_ble_eq_true rfl) (fun r V3 h => ?_)
    obtain ⟨⟨hW2, he, ⟨y1, rfl, hy1⟩, f2, hA2, h2, h3⟩, hrt⟩ := h
    obtain ⟨hG2, hg2⟩ := jphi.fresh hO hF hA2 hgs hsum he.1 (jle9.of he (jnot_of rfl)) hW2 hj hf h2 h3
    exact J.less (kc' := 5 * N + 8 * (G - 2)) (ks' := 491 * N + 20013 * (G - 2)) (by omega) (by omega) (K _ (G - 2) _ hW2 (hx.mono he.1) (hm.mono he.1) hg2 (hr.trial hW2 he hrt (jdis_of rfl)) (by omega))
  | some t =>
    refine Jw_callV2 (q9 := (RX6, TX6, 7)) moX6_forms jw_ml_L_77 jw_im_X6_forms jw_se_X6_forms hx rfl rfl dL_law_650 (w_X6_forms_old 999 _ ax _ _ fs tl f (by decide) hW hx hO hF hA (fun j2 q1 q2 => ⟨t, by rw [jnI_eq q1 hgj q2 hj]; exact hf⟩) c1 c2 c3 c4) (by decide) (Nat.zero_le _) (Nat.zero_le _) (Nat.le_of_ble_eq_true rfl) (fun r V3 h => ?_)
    obtain ⟨⟨hW2, he, y1, rfl, hy1⟩, hrt⟩ := h
    exact J.less (kc' := 5 * N + 8 * (G)) (ks' := 491 * N + 20013 * (G)) (by omega) (by omega) (K _ (G) _ hW2 (hx.mono he.1) (hm.mono he.1) (hg.keep he (jnot_of rfl) (jnot_of rfl)) (hr.trial hW2 he hrt (jdis_of rfl)) (Nat.le_refl _))
set_option maxRecDepth 100000 in
set_option maxHeartbeats 4000000 in
theorem lawc_16 {tS : jTS} {b L : Nat} {xs : Nat → Int32} (hs9 : tS.2 = some (b, L, xs)) (V : jH) (ax am : Nat) (i : Int32) (G N : Nat) {Q : Option Value → jH → Prop} (hW : WT V) (hx : jis V (.inr 4) ax) (hm : jis V (.inr 5) am) (hg : jphi V ax G) (hr : jRL V ax am) (hin1 : vp_in (i + 1) L) (hin2 : vp_in (i + 2) L) (hin3 : vp_in (i + 3) L) (kk : ∀ (V2 : jH) (G2 : Nat), WT V2 → jis V2 (.inr 4) ax → jis V2 (.inr 5) am → jphi V2 ax G2 → jRL V2 ax am → G2 ≤ G → J tS mL_law 1000 909 [some (.ref b), some (.ref ax), some (.ref am), some (.int i)] [] V2 (5 * N + 8 * G2) (491 * N + 20013 * G2) Q) : J tS mL_law 1000 672 [some (.ref b), some (.ref ax), some (.ref am), some (.int i)] [] V (5 * (N + 1) + 8 * G) (491 * (N + 1) + 20013 * G) Q := by
  refine J_aload_n dL_law_672 rfl ?_
  refine J_aload_n dL_law_673 rfl ?_
  refine J_iload_n dL_law_674 rfl ?_
  refine J_iconst (v := 1) dL_law_675 (by decide) ?_
  refine J_iadd dL_law_676 ?_
  refine J_sld hs9 dL_law_677 hin1 ?_
  refine J_aload_n dL_law_678 rfl ?_
  refine J_iload_n dL_law_679 rfl ?_
  refine J_iconst (v := 2) dL_law_680 (by decide) ?_
  refine J_iadd dL_law_681 ?_
  refine J_sld hs9 dL_law_682 hin2 ?_
  have K : ∀ (V2 : jH) (G2 : Nat) (y1 : Int32), WT V2 → jis V2 (.inr 4) ax → jis V2 (.inr 5) am → jphi V2 ax G2 → jRL V2 ax am → G2 ≤ G → J tS mL_law 1000 686 [some (.ref b), some (.ref ax), some (.ref am), some (.int i)] [.int y1] V2 (5 * N + 8 * G2) (491 * N + 20013 * G2) Q := by
    intro V2 G2 y1 hW hx hm hg hr hG2
    refine J_pop dL_law_686 rfl ?_
    refine J_aload_n dL_law_687 rfl ?_
    refine J_aload_n dL_law_688 rfl ?_
    refine J_iload_n dL_law_689 rfl ?_
    refine J_iconst (v := 1) dL_law_690 (by decide) ?_
    refine J_iadd dL_law_691 ?_
    refine J_sld hs9 dL_law_692 hin1 ?_
    refine J_aload_n dL_law_693 rfl ?_
    refine J_iload_n dL_law_694 rfl ?_
    refine J_iconst (v := 2) dL_law_695 (by decide) ?_
    refine J_iadd dL_law_696 ?_
    refine J_sld hs9 dL_law_697 hin2 ?_
    refine Jw_callV2 (q9 := (RX7, TX7, 34)) moX7_reach jw_ml_L_84 jw_im_X7_reach jw_se_X7_reach hm rfl rfl dL_law_698 (w_X7_reach 999 _ am (xs (i + 1).toNatClampNeg) (xs (i + 2).toNatClampNeg) (by decide) hW hm ) (by decide) (Nat.zero_le _) (Nat.zero_le _) (Nat.le_of_ble_eq_true rfl) (fun r V3 h => ?_)
    obtain ⟨⟨hW, he, y2, rfl, hy2⟩, hkp⟩ := h
    have hx := hx.mono he.1
    have hm := hm.mono he.1
    have hg := hg.keep he (jnot_of rfl) (jnot_of rfl)
    have hr := hr.ref he hkp (by decide) (jdis_of rfl)
    refine J_pop dL_law_701 rfl ?_
    refine J_goto (tgt := 909) dL_law_702 (by decide) ?_
    exact J.less (kc' := 5 * N + 8 * G2) (ks' := 491 * N + 20013 * G2) (by omega) (by omega) (kk _ G2 hW hx hm hg hr hG2)
  by_cases c1 : (xs (i + 1).toNatClampNeg) < 0
  · refine Jw_callV2 (q9 := (RX6, TX6, 7)) moX6_reach jw_ml_L_81 jw_im_X6_reach jw_se_X6_reach hx rfl rfl dL_law_683 (w_X6_reach_bad 999 _ ax _ _ (by decide) hW hx (Or.inl c1)) (by decide) (Nat.zero_le _) (Nat.zero_le _) (Nat.le_of_ble_eq_true rfl) (fun r V3 h => ?_)
    obtain ⟨⟨y1, rfl, hy1⟩, hE⟩ := h
    subst hE
    exact J.less (kc' := 5 * N + 8 * (G)) (ks' := 491 * N + 20013 * (G)) (by omega) (by omega) (K _ (G) _ hW hx hm hg hr (Nat.le_refl _))
  by_cases c2 : Int32.ofNat 4 ≤ (xs (i + 1).toNatClampNeg)
  · refine Jw_callV2 (q9 := (RX6, TX6, 7)) moX6_reach jw_ml_L_81 jw_im_X6_reach jw_se_X6_reach hx rfl rfl dL_law_683 (w_X6_reach_bad 999 _ ax _ _ (by decide) hW hx (Or.inr (Or.inl c2))) (by decide) (Nat.zero_le _) (Nat.zero_le _) (Nat.le_of_ble_eq_true rfl) (fun r V3 h => ?_)
    obtain ⟨⟨y1, rfl, hy1⟩, hE⟩ := h
    subst hE
    exact J.less (kc' := 5 * N + 8 * (G)) (ks' := 491 * N + 20013 * (G)) (by omega) (by omega) (K _ (G) _ hW hx hm hg hr (Nat.le_refl _))
  by_cases c3 : (xs (i + 2).toNatClampNeg) < 1
  · refine Jw_callV2 (q9 := (RX6, TX6, 7)) moX6_reach jw_ml_L_81 jw_im_X6_reach jw_se_X6_reach hx rfl rfl dL_law_683 (w_X6_reach_bad 999 _ ax _ _ (by decide) hW hx (Or.inr (Or.inr (Or.inl c3)))) (by decide) (Nat.zero_le _) (Nat.zero_le _) (Nat.le_of_ble_eq_true rfl) (fun r V3 h => ?_)
    obtain ⟨⟨y1, rfl, hy1⟩, hE⟩ := h
    subst hE
    exact J.less (kc' := 5 * N + 8 * (G)) (ks' := 491 * N + 20013 * (G)) (by omega) (by omega) (K _ (G) _ hW hx hm hg hr (Nat.le_refl _))
  by_cases c4 : (xs (i + 2).toNatClampNeg) ≤ 20
  rotate_left
  · refine Jw_callV2 (q9 := (RX6, TX6, 7)) moX6_reach jw_ml_L_81 jw_im_X6_reach jw_se_X6_reach hx rfl rfl dL_law_683 (w_X6_reach_bad 999 _ ax _ _ (by decide) hW hx (Or.inr (Or.inr (Or.inr c4)))) (by decide) (Nat.zero_le _) (Nat.zero_le _) (Nat.le_of_ble_eq_true rfl) (fun r V3 h => ?_)
    obtain ⟨⟨y1, rfl, hy1⟩, hE⟩ := h
    subst hE
    exact J.less (kc' := 5 * N + 8 * (G)) (ks' := 491 * N + 20013 * (G)) (by omega) (by omega) (K _ (G) _ hW hx hm hg hr (Nat.le_refl _))
  obtain ⟨fs, tl, f, g, hO, hF, hA, hgs, hsum⟩ := id hg
  obtain ⟨j, hj, hgj⟩ := vp_in_of (vp_in_g c1 c2 (by decide)) (by decide)
  cases hf : f j with
  | none =>
    have hroom := jg_none hgs hsum hj hf
    have c3i : 1 ≤ (xs (i + 2).toNatClampNeg).toInt := by rw [jlt] at c3; have q9 : (1 : Int32).toInt = 1 := rfl; omega
    have c4i : (xs (i + 2).toNatClampNeg).toInt ≤ 20 := by rw [jle] at c4; exact c4
    refine Jw_callV2 (q9 := (RX6, TX6, 7)) moX6_reach jw_ml_L_81 jw_im_X6_reach jw_se_X6_reach hx rfl rfl dL_law_683 (w_X6_reach_new 999 _ ax _ _ fs tl f j (by decide) hW hx hO hF hA hgj hj c1 c2 c3 c4 hf c3i c4i) (by decide) (by omega) (by omega) (Nat.le_of_ble_eq_true rfl) (fun r V3 h => ?_)
    obtain ⟨⟨hW2, he, y1, rfl, hy1⟩, h9, ⟨f2, hA2, h2, h3⟩, hrt⟩ := h
    obtain ⟨hG2, hg2⟩ := jphi.fresh hO hF hA2 hgs hsum he.1 h9 hW2 hj hf h2 h3
    exact J.less (kc' := 5 * N + 8 * (G - 2)) (ks' := 491 * N + 20013 * (G - 2)) (by omega) (by omega) (K _ (G - 2) _ hW2 (hx.mono he.1) (hm.mono he.1) hg2 (hr.trial hW2 he hrt (jdis_of rfl)) (by omega))
  | some t =>
    have c3i : 1 ≤ (xs (i + 2).toNatClampNeg).toInt := by rw [jlt] at c3; have q9 : (1 : Int32).toInt = 1 := rfl; omega
    have c4i : (xs (i + 2).toNatClampNeg).toInt ≤ 20 := by rw [jle] at c4; exact c4
    obtain ⟨n4, f4, hA4, -, -, hv4⟩ := WT_arrR hW id rfl (show jis V (.inl 5) tl from ⟨_, hA, rfl⟩)
    cases hA.symm.trans hA4
    obtain ⟨ts, ht, hKt⟩ := WT_obj hW id (hv4 j t hj hf)
    obtain ⟨w9, hF9, rc, rfl, hrcj⟩ := hKt.2 9 (.inr (some (.inl 9))) rfl
    obtain ⟨n5, h5, hrc, -, hM5, -⟩ := WT_arrI (r := (-2147483648, 2147483647)) hW id rfl hrcj
    obtain rfl := hM5 7 rfl
    by_cases cq : (xs (i + 1).toNatClampNeg).toInt = 2 ∨ 6 < (xs (i + 2).toNatClampNeg).toInt ∨ 10000 < jpw (jdir (xs (i + 1).toNatClampNeg).toInt) (xs (i + 2).toNatClampNeg).toInt.toNat ∨ ¬ (h5 (xs (i + 2).toNatClampNeg).toInt.toNat).toInt = -1
    · refine Jw_callV2 (q9 := (RX6, TX6, 7)) moX6_reach jw_ml_L_81 jw_im_X6_reach jw_se_X6_reach hx rfl rfl dL_law_683 (w_X6_reach_oldq 999 _ ax _ _ fs tl f j t ts rc h5 (by decide) hW hx hO hF hA hgj hj c1 c2 c3 c4 hf ht hF9 hrc c3i c4i cq) (by decide) (Nat.zero_le _) (Nat.zero_le _) (Nat.le_of_ble_eq_true rfl) (fun r V3 h => ?_)
      obtain ⟨⟨y1, rfl, hy1⟩, hE⟩ := h
      subst hE
      exact J.less (kc' := 5 * N + 8 * (G)) (ks' := 491 * N + 20013 * (G)) (by omega) (by omega) (K _ (G) _ hW hx hm hg hr (Nat.le_refl _))
    have d1 := fun q => cq (Or.inl q)
    have d2 := fun q => cq (Or.inr (Or.inl q))
    have d3 := fun q => cq (Or.inr (Or.inr (Or.inl q)))
    have d4 := Classical.not_not.mp (fun q => cq (Or.inr (Or.inr (Or.inr q))))
    have hroom := jg_some hgs hsum hj hf ht hF9 hrc (x := (xs (i + 2).toNatClampNeg).toInt.toNat) (by omega) d4
    refine Jw_callV2 (q9 := (RX6, TX6, 7)) moX6_reach jw_ml_L_81 jw_im_X6_reach jw_se_X6_reach hx rfl rfl dL_law_683 (w_X6_reach_olda 999 _ ax _ _ fs tl f j t ts rc h5 (by decide) hW hx hO hF hA hgj hj c1 c2 c3 c4 hf ht hF9 hrc c3i c4i d1 (by omega) (by omega) d4) (by decide) (by omega) (by omega) (Nat.le_of_ble_eq_true rfl) (fun r V3 h => ?_)
    obtain ⟨⟨hW2, he, y1, rfl, hy1⟩, h9, ⟨H2, hH2, hc2⟩, hrt⟩ := h
    obtain ⟨hG2, hg2⟩ := jphi.alloc hO hF (he.2 _ _ hA (jnot_of rfl)) hgs hsum he.1 h9 hj hf ht hF9 hrc hH2 hc2
    exact J.less (kc' := 5 * N + 8 * (G - 1)) (ks' := 491 * N + 20013 * (G - 1)) (by omega) (by omega) (K _ (G - 1) _ hW2 (hx.mono he.1) (hm.mono he.1) hg2 (hr.trial hW2 he hrt (jdis_of rfl)) (by omega))
set_option maxRecDepth 100000 in
set_option maxHeartbeats 4000000 in
theorem lawc_17 {tS : jTS} {b L : Nat} {xs : Nat → Int32} (hs9 : tS.2 = some (b, L, xs)) (V : jH) (ax am : Nat) (i : Int32) (G N : Nat) {Q : Option Value → jH → Prop} (hW : WT V) (hx : jis V (.inr 4) ax) (hm : jis V (.inr 5) am) (hg : jphi V ax G) (hr : jRL V ax am) (hin1 : vp_in (i + 1) L) (hin2 : vp_in (i + 2) L) (hin3 : vp_in (i + 3) L) (kk : ∀ (V2 : jH) (G2 : Nat), WT V2 → jis V2 (.inr 4) ax → jis V2 (.inr 5) am → jphi V2 ax G2 → jRL V2 ax am → G2 ≤ G → J tS mL_law 1000 909 [some (.ref b), some (.ref ax), some (.ref am), some (.int i)] [] V2 (5 * N + 8 * G2) (491 * N + 20013 * G2) Q) : J tS mL_law 1000 705 [some (.ref b), some (.ref ax), some (.ref am), some (.int i)] [] V (5 * (N + 1) + 8 * G) (491 * (N + 1) + 20013 * G) Q := by
  refine J_aload_n dL_law_705 rfl ?_
  refine J_aload_n dL_law_706 rfl ?_
  refine J_iload_n dL_law_707 rfl ?_
  refine J_iconst (v := 1) dL_law_708 (by decide) ?_
  refine J_iadd dL_law_709 ?_
  refine J_sld hs9 dL_law_710 hin1 ?_
  refine J_aload_n dL_law_711 rfl ?_
  refine J_iload_n dL_law_712 rfl ?_
  refine J_iconst (v := 2) dL_law_713 (by decide) ?_
  refine J_iadd dL_law_714 ?_
  refine J_sld hs9 dL_law_715 hin2 ?_
  obtain ⟨hrl, hp, hff⟩ := id hr
  obtain ⟨pl, rh, pw, ph, po, HH, r1, r2, c1, c2, c3, m1, m2, hH, hbd, hbt⟩ := jpl.parts hp
  by_cases cB : 2 ≤ (xs (i + 1).toNatClampNeg).toInt ∧ (xs (i + 1).toNatClampNeg).toInt ≤ 6 ∧ 2 ≤ (xs (i + 2).toNatClampNeg).toInt ∧ (xs (i + 2).toNatClampNeg).toInt ≤ 6
  · skip
    refine Jw_callV2 (q9 := (RX6, TX6, 7)) moX6_board jw_ml_L_85 jw_im_X6_board jw_se_X6_board hx rfl rfl dL_law_716 (w_X6_board_yes 999 _ ax (xs (i + 1).toNatClampNeg) (xs (i + 2).toNatClampNeg) pl (by decide) hW hx r1 cB) (by decide) (Nat.zero_le _) (Nat.zero_le _) (Nat.le_of_ble_eq_true rfl) (fun r V4 h => ?_)
    obtain ⟨⟨hW, he, y1, rfl, -, -, hy1⟩, w2, h2, op2, k1, k2, k3, e1, e2, hb2⟩ := h
    have hx := hx.mono he.1
    have hm := hm.mono he.1
    have hg := hg.keep he (jnot_of rfl) (jnot_of rfl)
    refine J.less (kc' := 5 * N + 8 * G) (ks' := 491 * N + 20013 * G) (by omega) (by omega) ?_
    obtain ⟨G2, hGe⟩ : ∃ G2 : Nat, G2 = G := ⟨_, rfl⟩
    have hG2 : G2 ≤ G := Nat.le_of_eq hGe
    rw [← hGe] at hg ⊢
    refine J_pop dL_law_719 rfl ?_
    refine J_aload_n dL_law_720 rfl ?_
    refine J_aload_n dL_law_721 rfl ?_
    refine J_iload_n dL_law_722 rfl ?_
    refine J_iconst (v := 1) dL_law_723 (by decide) ?_
    refine J_iadd dL_law_724 ?_
    refine J_sld hs9 dL_law_725 hin1 ?_
    refine J_aload_n dL_law_726 rfl ?_
    refine J_iload_n dL_law_727 rfl ?_
    refine J_iconst (v := 2) dL_law_728 (by decide) ?_
    refine J_iadd dL_law_729 ?_
    refine J_sld hs9 dL_law_730 hin2 ?_
    refine Jw_callV2 (q9 := (RX7, TX7, 34)) moX7_board jw_ml_L_88 jw_im_X7_board jw_se_X7_board hm rfl rfl dL_law_731 (w_X7_board_yes 999 _ am (xs (i + 1).toNatClampNeg) (xs (i + 2).toNatClampNeg) rh (by decide) hW hm (r2.mono he.1) cB) (by decide) (Nat.zero_le _) (Nat.zero_le _) (Nat.le_of_ble_eq_true rfl) (fun r V3 h => ?_)
    obtain ⟨⟨hW, he5, y2, rfl, -, -, hy2⟩, ⟨GG, hGG, hGz⟩, hkp, ⟨w5, n1, f1⟩, ⟨h5, n2, f2⟩⟩ := h
    have hx := hx.mono he5.1
    have hm := hm.mono he5.1
    have hg := hg.keep he5 (jnot_of rfl) (jnot_of rfl)
    have hr : jRL _ ax am := ⟨(hrl.own he (jdis_of rfl) (jdis_of rfl)).ref he5 hkp (by decide) (jdis_of rfl) (jdis_of rfl), jpl.laid cB ((r1.mono he.1).mono he5.1) ((r2.mono he.1).mono he5.1) (k1.keep he5 (jnot_of rfl)) (k2.keep he5 (jnot_of rfl)) (k3.keep he5 (jnot_of rfl)) e1 e2 hb2 n1 n2 f1 f2 hGG hGz, (hff.mono he.1).mono he5.1⟩
    refine J_pop dL_law_734 rfl ?_
    refine J_goto (tgt := 909) dL_law_735 (by decide) ?_
    exact J.less (kc' := 5 * N + 8 * G2) (ks' := 491 * N + 20013 * G2) (by omega) (by omega) (kk _ G2 hW hx hm hg hr hG2)
  · skip
    refine Jw_callV2 (q9 := (RX6, TX6, 7)) moX6_board jw_ml_L_85 jw_im_X6_board jw_se_X6_board hx rfl rfl dL_law_716 (w_X6_board_no 999 _ ax (xs (i + 1).toNatClampNeg) (xs (i + 2).toNatClampNeg) (by decide) hW hx cB) (by decide) (Nat.zero_le _) (Nat.zero_le _) (Nat.le_of_ble_eq_true rfl) (fun r V4 h => ?_)
    obtain ⟨⟨y1, rfl, -, -, hy1⟩, hE⟩ := h
    have hE := hE.symm
    subst hE
    refine J.less (kc' := 5 * N + 8 * G) (ks' := 491 * N + 20013 * G) (by omega) (by omega) ?_
    obtain ⟨G2, hGe⟩ : ∃ G2 : Nat, G2 = G := ⟨_, rfl⟩
    have hG2 : G2 ≤ G := Nat.le_of_eq hGe
    rw [← hGe] at hg ⊢
    refine J_pop dL_law_719 rfl ?_
    refine J_aload_n dL_law_720 rfl ?_
    refine J_aload_n dL_law_721 rfl ?_
    refine J_iload_n dL_law_722 rfl ?_
    refine J_iconst (v := 1) dL_law_723 (by decide) ?_
    refine J_iadd dL_law_724 ?_
    refine J_sld hs9 dL_law_725 hin1 ?_
    refine J_aload_n dL_law_726 rfl ?_
    refine J_iload_n dL_law_727 rfl ?_
    refine J_iconst (v := 2) dL_law_728 (by decide) ?_
    refine J_iadd dL_law_729 ?_
    refine J_sld hs9 dL_law_730 hin2 ?_
    refine Jw_callV2 (q9 := (RX7, TX7, 34)) moX7_board jw_ml_L_88 jw_im_X7_board jw_se_X7_board hm rfl rfl dL_law_731 (w_X7_board_no 999 _ am (xs (i + 1).toNatClampNeg) (xs (i + 2).toNatClampNeg) (by decide) hW hm cB) (by decide) (Nat.zero_le _) (Nat.zero_le _) (Nat.le_of_ble_eq_true rfl) (fun r V3 h => ?_)
    obtain ⟨⟨y2, rfl, -, -, hy2⟩, hE⟩ := h
    have hE := hE.symm
    subst hE
    refine J_pop dL_law_734 rfl ?_
    refine J_goto (tgt := 909) dL_law_735 (by decide) ?_
    exact J.less (kc' := 5 * N + 8 * G2) (ks' := 491 * N + 20013 * G2) (by omega) (by omega) (kk _ G2 hW hx hm hg hr hG2)
set_option maxRecDepth 100000 in
set_option maxHeartbeats 4000000 in
theorem lawc_18 {tS : jTS} {b L : Nat} {xs : Nat → Int32} (hs9 : tS.2 = some (b, L, xs)) (V : jH) (ax am : Nat) (i : Int32) (G N : Nat) {Q : Option Value → jH → Prop} (hW : WT V) (hx : jis V (.inr 4) ax) (hm : jis V (.inr 5) am) (hg : jphi V ax G) (hr : jRL V ax am) (hin1 : vp_in (i + 1) L) (hin2 : vp_in (i + 2) L) (hin3 : vp_in (i + 3) L) (kk : ∀ (V2 : jH) (G2 : Nat), WT V2 → jis V2 (.inr 4) ax → jis V2 (.inr 5) am → jphi V2 ax G2 → jRL V2 ax am → G2 ≤ G → J tS mL_law 1000 909 [some (.ref b), some (.ref ax), some (.ref am), some (.int i)] [] V2 (5 * N + 8 * G2) (491 * N + 20013 * G2) Q) : J tS mL_law 1000 738 [some (.ref b), some (.ref ax), some (.ref am), some (.int i)] [] V (5 * (N + 1) + 8 * G) (491 * (N + 1) + 20013 * G) Q := by
  refine J_aload_n dL_law_738 rfl ?_
  refine J_aload_n dL_law_739 rfl ?_
  refine J_iload_n dL_law_740 rfl ?_
  refine J_iconst (v := 1) dL_law_741 (by decide) ?_
  refine J_iadd dL_law_742 ?_
  refine J_sld hs9 dL_law_743 hin1 ?_
  refine J_aload_n dL_law_744 rfl ?_
  refine J_iload_n dL_law_745 rfl ?_
  refine J_iconst (v := 2) dL_law_746 (by decide) ?_
  refine J_iadd dL_law_747 ?_
  refine J_sld hs9 dL_law_748 hin2 ?_
  refine J_aload_n dL_law_749 rfl ?_
  refine J_iload_n dL_law_750 rfl ?_
  refine J_iconst (v := 3) dL_law_751 (by decide) ?_
  refine J_iadd dL_law_752 ?_
  refine J_sld hs9 dL_law_753 hin3 ?_
  obtain ⟨w, hw0, hw1, hwz, hwo⟩ := jbw (xs (i + 3).toNatClampNeg)
  have Kb754 : J tS mL_law 1000 762 [some (.ref b), some (.ref ax), some (.ref am), some (.int i)] [.int w, .int (xs (i + 2).toNatClampNeg), .int (xs (i + 1).toNatClampNeg), .ref ax] V (5 * (N + 1) + 8 * G) (491 * (N + 1) + 20013 * G) Q := by
    obtain ⟨hrl, hp, hff⟩ := id hr
    obtain ⟨pl, rh, pw, ph, po, HH, r1, r2, c1, c2, c3, m1, m2, hH, hbd, hbt⟩ := jpl.parts hp
    by_cases cI : 0 ≤ (xs (i + 1).toNatClampNeg).toInt ∧ (xs (i + 1).toNatClampNeg).toInt < pw.toInt ∧ 0 ≤ (xs (i + 2).toNatClampNeg).toInt ∧ (xs (i + 2).toNatClampNeg).toInt < ph.toInt
    rotate_left
    · skip
      refine Jw_callV3 (q9 := (RX6, TX6, 7)) moX6_hole jw_ml_L_89 jw_im_X6_hole jw_se_X6_hole hx rfl rfl dL_law_762 (w_X6_hole_out 999 _ ax (xs (i + 1).toNatClampNeg) (xs (i + 2).toNatClampNeg) w pl pw ph po (by decide) hW hx hw0 hw1 r1 c1 c2 c3 hbd.1 hbd.2.1 hbd.2.2.1 hbd.2.2.2 cI) (by decide) (Nat.zero_le _) (Nat.zero_le _) (Nat.le_of_ble_eq_true rfl) (fun r V4 h => ?_)
      obtain ⟨⟨y1, rfl, -, -, hy1⟩, hE⟩ := h
      have hE := hE.symm
      subst hE
      refine J.less (kc' := 5 * N + 8 * G) (ks' := 491 * N + 20013 * G) (by omega) (by omega) ?_
      obtain ⟨G2, hGe⟩ : ∃ G2 : Nat, G2 = G := ⟨_, rfl⟩
      have hG2 : G2 ≤ G := Nat.le_of_eq hGe
      rw [← hGe] at hg ⊢
      refine J_pop dL_law_765 rfl ?_
      refine J_aload_n dL_law_766 rfl ?_
      refine J_aload_n dL_law_767 rfl ?_
      refine J_iload_n dL_law_768 rfl ?_
      refine J_iconst (v := 1) dL_law_769 (by decide) ?_
      refine J_iadd dL_law_770 ?_
      refine J_sld hs9 dL_law_771 hin1 ?_
      refine J_aload_n dL_law_772 rfl ?_
      refine J_iload_n dL_law_773 rfl ?_
      refine J_iconst (v := 2) dL_law_774 (by decide) ?_
      refine J_iadd dL_law_775 ?_
      refine J_sld hs9 dL_law_776 hin2 ?_
      refine J_aload_n dL_law_777 rfl ?_
      refine J_iload_n dL_law_778 rfl ?_
      refine J_iconst (v := 3) dL_law_779 (by decide) ?_
      refine J_iadd dL_law_780 ?_
      refine J_sld hs9 dL_law_781 hin3 ?_
      have Kb782 : J tS mL_law 1000 790 [some (.ref b), some (.ref ax), some (.ref am), some (.int i)] [.int w, .int (xs (i + 2).toNatClampNeg), .int (xs (i + 1).toNatClampNeg), .ref am] V (5 * N + 8 * G2) (491 * N + 20013 * G2) Q := by
        refine Jw_callV3 (q9 := (RX7, TX7, 34)) moX7_hole jw_ml_L_93 jw_im_X7_hole jw_se_X7_hole hm rfl rfl dL_law_790 (w_X7_hole_out 999 _ am (xs (i + 1).toNatClampNeg) (xs (i + 2).toNatClampNeg) w pw ph rh HH (by decide) hW hm hw0 hw1 m1 m2 r2 hH hbd.1 hbd.2.2.1 cI) (by decide) (Nat.zero_le _) (Nat.zero_le _) (Nat.le_of_ble_eq_true rfl) (fun r V3 h => ?_)
        obtain ⟨⟨y2, rfl, -, -, hy2⟩, hE⟩ := h
        have hE := hE.symm
        subst hE
        refine J_pop dL_law_793 rfl ?_
        refine J_goto (tgt := 909) dL_law_794 (by decide) ?_
        exact J.less (kc' := 5 * N + 8 * G2) (ks' := 491 * N + 20013 * G2) (by omega) (by omega) (kk _ G2 hW hx hm hg hr hG2)
      refine J_if_eq (tgt := 789) dL_law_782 (by decide) (fun c => ?_) (fun c => ?_)
      · skip
        refine J_iconst (v := 0) dL_law_789 (by decide) ?_
        rw [hwz c] at Kb782
        exact Kb782
      · skip
        refine J_iconst (v := 1) dL_law_785 (by decide) ?_
        refine J_goto (tgt := 790) dL_law_786 (by decide) ?_
        rw [hwo c] at Kb782
        exact Kb782
    have hcell := jpl_bit hbt hbd.2.1 cI.1 cI.2.1 cI.2.2.1 cI.2.2.2
    have hHr := (WT_rngI (r := (0, 1)) hW id rfl hH).2 _ (jcell_lt cI.1 cI.2.1 cI.2.2.1 cI.2.2.2 hbd.2.1 hbd.2.2.2)
    dsimp only at hHr
    by_cases cS : (HH ((xs (i + 1).toNatClampNeg).toInt + pw.toInt * (xs (i + 2).toNatClampNeg).toInt).toNat).toInt = w.toInt ∨ ((xs (i + 1).toNatClampNeg).toInt = 0 ∧ (xs (i + 2).toNatClampNeg).toInt = 0 ∨ (xs (i + 1).toNatClampNeg).toInt = pw.toInt - 1 ∧ (xs (i + 2).toNatClampNeg).toInt = ph.toInt - 1)
    · skip
      refine Jw_callV3 (q9 := (RX6, TX6, 7)) moX6_hole jw_ml_L_89 jw_im_X6_hole jw_se_X6_hole hx rfl rfl dL_law_762 (w_X6_hole_same 999 _ ax (xs (i + 1).toNatClampNeg) (xs (i + 2).toNatClampNeg) w pl pw ph po (by decide) hW hx hw0 hw1 r1 c1 c2 c3 hbd.1 hbd.2.1 hbd.2.2.1 hbd.2.2.2 cI (cS.imp (fun q => jbit_eq hcell q) id)) (by decide) (Nat.zero_le _) (Nat.zero_le _) (Nat.le_of_ble_eq_true rfl) (fun r V4 h => ?_)
      obtain ⟨⟨y1, rfl, -, -, hy1⟩, hE⟩ := h
      have hE := hE.symm
      subst hE
      refine J.less (kc' := 5 * N + 8 * G) (ks' := 491 * N + 20013 * G) (by omega) (by omega) ?_
      obtain ⟨G2, hGe⟩ : ∃ G2 : Nat, G2 = G := ⟨_, rfl⟩
      have hG2 : G2 ≤ G := Nat.le_of_eq hGe
      rw [← hGe] at hg ⊢
      refine J_pop dL_law_765 rfl ?_
      refine J_aload_n dL_law_766 rfl ?_
      refine J_aload_n dL_law_767 rfl ?_
      refine J_iload_n dL_law_768 rfl ?_
      refine J_iconst (v := 1) dL_law_769 (by decide) ?_
      refine J_iadd dL_law_770 ?_
      refine J_sld hs9 dL_law_771 hin1 ?_
      refine J_aload_n dL_law_772 rfl ?_
      refine J_iload_n dL_law_773 rfl ?_
      refine J_iconst (v := 2) dL_law_774 (by decide) ?_
      refine J_iadd dL_law_775 ?_
      refine J_sld hs9 dL_law_776 hin2 ?_
      refine J_aload_n dL_law_777 rfl ?_
      refine J_iload_n dL_law_778 rfl ?_
      refine J_iconst (v := 3) dL_law_779 (by decide) ?_
      refine J_iadd dL_law_780 ?_
      refine J_sld hs9 dL_law_781 hin3 ?_
      have Kb782 : J tS mL_law 1000 790 [some (.ref b), some (.ref ax), some (.ref am), some (.int i)] [.int w, .int (xs (i + 2).toNatClampNeg), .int (xs (i + 1).toNatClampNeg), .ref am] V (5 * N + 8 * G2) (491 * N + 20013 * G2) Q := by
        refine Jw_callV3 (q9 := (RX7, TX7, 34)) moX7_hole jw_ml_L_93 jw_im_X7_hole jw_se_X7_hole hm rfl rfl dL_law_790 (w_X7_hole_same 999 _ am (xs (i + 1).toNatClampNeg) (xs (i + 2).toNatClampNeg) w pw ph rh HH (by decide) hW hm hw0 hw1 m1 m2 r2 hH hbd.1 hbd.2.2.1 cI cS) (by decide) (Nat.zero_le _) (Nat.zero_le _) (Nat.le_of_ble_eq_true rfl) (fun r V3 h => ?_)
        obtain ⟨⟨y2, rfl, -, -, hy2⟩, hE⟩ := h
        have hE := hE.symm
        subst hE
        refine J_pop dL_law_793 rfl ?_
        refine J_goto (tgt := 909) dL_law_794 (by decide) ?_
        exact J.less (kc' := 5 * N + 8 * G2) (ks' := 491 * N + 20013 * G2) (by omega) (by omega) (kk _ G2 hW hx hm hg hr hG2)
      refine J_if_eq (tgt := 789) dL_law_782 (by decide) (fun c => ?_) (fun c => ?_)
      · skip
        refine J_iconst (v := 0) dL_law_789 (by decide) ?_
        rw [hwz c] at Kb782
        exact Kb782
      · skip
        refine J_iconst (v := 1) dL_law_785 (by decide) ?_
        refine J_goto (tgt := 790) dL_law_786 (by decide) ?_
        rw [hwo c] at Kb782
        exact Kb782
    have cS1 := fun q => cS (Or.inl q)
    have cS2 := fun q => cS (Or.inr q)
    have hdt := jbit_ne hcell hHr.1 hHr.2 hw0 hw1 cS1
    refine Jw_callV3 (q9 := (RX6, TX6, 7)) moX6_hole jw_ml_L_89 jw_im_X6_hole jw_se_X6_hole hx rfl rfl dL_law_762 (w_X6_hole_turn 999 _ ax (xs (i + 1).toNatClampNeg) (xs (i + 2).toNatClampNeg) w pl pw ph po (by decide) hW hx hw0 hw1 r1 c1 c2 c3 hbd.1 hbd.2.1 hbd.2.2.1 hbd.2.2.2 cI hdt cS2) (by decide) (Nat.zero_le _) (Nat.zero_le _) (Nat.le_of_ble_eq_true rfl) (fun r V4 h => ?_)
    obtain ⟨⟨hW, he, y1, rfl, -, -, hy1⟩, hk0, op2, k3, ht⟩ := h
    have hx := hx.mono he.1
    have hm := hm.mono he.1
    have hg := hg.keep he (jnot_of rfl) (jnot_of rfl)
    refine J.less (kc' := 5 * N + 8 * G) (ks' := 491 * N + 20013 * G) (by omega) (by omega) ?_
    obtain ⟨G2, hGe⟩ : ∃ G2 : Nat, G2 = G := ⟨_, rfl⟩
    have hG2 : G2 ≤ G := Nat.le_of_eq hGe
    rw [← hGe] at hg ⊢
    refine J_pop dL_law_765 rfl ?_
    refine J_aload_n dL_law_766 rfl ?_
    refine J_aload_n dL_law_767 rfl ?_
    refine J_iload_n dL_law_768 rfl ?_
    refine J_iconst (v := 1) dL_law_769 (by decide) ?_
    refine J_iadd dL_law_770 ?_
    refine J_sld hs9 dL_law_771 hin1 ?_
    refine J_aload_n dL_law_772 rfl ?_
    refine J_iload_n dL_law_773 rfl ?_
    refine J_iconst (v := 2) dL_law_774 (by decide) ?_
    refine J_iadd dL_law_775 ?_
    refine J_sld hs9 dL_law_776 hin2 ?_
    refine J_aload_n dL_law_777 rfl ?_
    refine J_iload_n dL_law_778 rfl ?_
    refine J_iconst (v := 3) dL_law_779 (by decide) ?_
    refine J_iadd dL_law_780 ?_
    refine J_sld hs9 dL_law_781 hin3 ?_
    have Kb782 : J tS mL_law 1000 790 [some (.ref b), some (.ref ax), some (.ref am), some (.int i)] [.int w, .int (xs (i + 2).toNatClampNeg), .int (xs (i + 1).toNatClampNeg), .ref am] V4 (5 * N + 8 * G2) (491 * N + 20013 * G2) Q := by
      refine Jw_callV3 (q9 := (RX7, TX7, 34)) moX7_hole jw_ml_L_93 jw_im_X7_hole jw_se_X7_hole hm rfl rfl dL_law_790 (w_X7_hole_turn 999 _ am (xs (i + 1).toNatClampNeg) (xs (i + 2).toNatClampNeg) w pw ph rh HH (by decide) hW hm hw0 hw1 (m1.keep he (jnot_of rfl)) (m2.keep he (jnot_of rfl)) (r2.mono he.1) (he.2 _ _ hH (jnot_of rfl)) hbd.1 hbd.2.2.1 cI cS1 cS2) (by decide) (Nat.zero_le _) (Nat.zero_le _) (Nat.le_of_ble_eq_true rfl) (fun r V3 h => ?_)
      obtain ⟨⟨hW, he5, y2, rfl, -, -, hy2⟩, ⟨GG, hGG, hGk, hGo⟩, hkp⟩ := h
      have hx := hx.mono he5.1
      have hm := hm.mono he5.1
      have hg := hg.keep he5 (jnot_of rfl) (jnot_of rfl)
      have hr : jRL _ ax am := ⟨(hrl.own he (jdis_of rfl) (jdis_of rfl)).ref he5 hkp (by decide) (jdis_of rfl) (jdis_of rfl), jpl.turned ((r1.mono he.1).mono he5.1) ((r2.mono he.1).mono he5.1) ((c1.kp hk0 (by decide)).keep he5 (jnot_of rfl)) ((c2.kp hk0 (by decide)).keep he5 (jnot_of rfl)) (k3.keep he5 (jnot_of rfl)) ((m1.keep he (jnot_of rfl)).kp hkp (by decide)) ((m2.keep he (jnot_of rfl)).kp hkp (by decide)) hGG hbd hbt cI hw0 hw1 hdt ht hGk hGo, (hff.mono he.1).mono he5.1⟩
      refine J_pop dL_law_793 rfl ?_
      refine J_goto (tgt := 909) dL_law_794 (by decide) ?_
      exact J.less (kc' := 5 * N + 8 * G2) (ks' := 491 * N + 20013 * G2) (by omega) (by omega) (kk _ G2 hW hx hm hg hr hG2)
    refine J_if_eq (tgt := 789) dL_law_782 (by decide) (fun c => ?_) (fun c => ?_)
    · skip
      refine J_iconst (v := 0) dL_law_789 (by decide) ?_
      rw [hwz c] at Kb782
      exact Kb782
    · skip
      refine J_iconst (v := 1) dL_law_785 (by decide) ?_
      refine J_goto (tgt := 790) dL_law_786 (by decide) ?_
      rw [hwo c] at Kb782
      exact Kb782
  refine J_if_eq (tgt := 761) dL_law_754 (by decide) (fun c => ?_) (fun c => ?_)
  · skip
    refine J_iconst (v := 0) dL_law_761 (by decide) ?_
    rw [hwz c] at Kb754
    exact Kb754
  · skip
    refine J_iconst (v := 1) dL_law_757 (by decide) ?_
    refine J_goto (tgt := 762) dL_law_758 (by decide) ?_
    rw [hwo c] at Kb754
    exact Kb754
set_option maxRecDepth 100000 in
set_option maxHeartbeats 4000000 in
theorem lawc_19 {tS : jTS} {b L : Nat} {xs : Nat → Int32} (hs9 : tS.2 = some (b, L, xs)) (V : jH) (ax am : Nat) (i : Int32) (G N : Nat) {Q : Option Value → jH → Prop} (hW : WT V) (hx : jis V (.inr 4) ax) (hm : jis V (.inr 5) am) (hg : jphi V ax G) (hr : jRL V ax am) (hin1 : vp_in (i + 1) L) (hin2 : vp_in (i + 2) L) (hin3 : vp_in (i + 3) L) (kk : ∀ (V2 : jH) (G2 : Nat), WT V2 → jis V2 (.inr 4) ax → jis V2 (.inr 5) am → jphi V2 ax G2 → jRL V2 ax am → G2 ≤ G → J tS mL_law 1000 909 [some (.ref b), some (.ref ax), some (.ref am), some (.int i)] [] V2 (5 * N + 8 * G2) (491 * N + 20013 * G2) Q) : J tS mL_law 1000 797 [some (.ref b), some (.ref ax), some (.ref am), some (.int i)] [] V (5 * (N + 1) + 8 * G) (491 * (N + 1) + 20013 * G) Q := by
  refine J_aload_n dL_law_797 rfl ?_
  refine J_aload_n dL_law_798 rfl ?_
  refine J_iload_n dL_law_799 rfl ?_
  refine J_iconst (v := 1) dL_law_800 (by decide) ?_
  refine J_iadd dL_law_801 ?_
  refine J_sld hs9 dL_law_802 hin1 ?_
  obtain ⟨w, hw0, hw1, hwz, hwo⟩ := jbw (xs (i + 1).toNatClampNeg)
  have Kb803 : J tS mL_law 1000 811 [some (.ref b), some (.ref ax), some (.ref am), some (.int i)] [.int w, .ref ax] V (5 * (N + 1) + 8 * G) (491 * (N + 1) + 20013 * G) Q := by
    have K : ∀ (V2 : jH) (G2 : Nat) (y1 : Int32), WT V2 → jis V2 (.inr 4) ax → jis V2 (.inr 5) am → jphi V2 ax G2 → jRL V2 ax am → G2 ≤ G → J tS mL_law 1000 814 [some (.ref b), some (.ref ax), some (.ref am), some (.int i)] [.int y1] V2 (5 * N + 8 * G2) (491 * N + 20013 * G2) Q := by
      intro V2 G2 y1 hW hx hm hg hr hG2
      refine J_pop dL_law_814 rfl ?_
      refine J_aload_n dL_law_815 rfl ?_
      refine J_aload_n dL_law_816 rfl ?_
      refine J_iload_n dL_law_817 rfl ?_
      refine J_iconst (v := 1) dL_law_818 (by decide) ?_
      refine J_iadd dL_law_819 ?_
      refine J_sld hs9 dL_law_820 hin1 ?_
      have Kb821 : J tS mL_law 1000 829 [some (.ref b), some (.ref ax), some (.ref am), some (.int i)] [.int w, .ref am] V2 (5 * N + 8 * G2) (491 * N + 20013 * G2) Q := by
        refine Jw_callV1 (q9 := (RX7, TX7, 34)) moX7_ways jw_ml_L_98 jw_im_X7_ways jw_se_X7_ways hm rfl rfl dL_law_829 (w_X7_ways 999 _ am w (by decide) hW hm (by assumption) (by assumption)) (by decide) (Nat.zero_le _) (Nat.zero_le _) (Nat.le_of_ble_eq_true rfl) (fun r V3 h => ?_)
        obtain ⟨⟨hW, he, y2, rfl, hy2⟩, hkp⟩ := h
        have hx := hx.mono he.1
        have hm := hm.mono he.1
        have hg := hg.keep he (jnot_of rfl) (jnot_of rfl)
        have hr := hr.ref he hkp (by decide) (jdis_of rfl)
        refine J_pop dL_law_832 rfl ?_
        refine J_goto (tgt := 909) dL_law_833 (by decide) ?_
        exact J.less (kc' := 5 * N + 8 * G2) (ks' := 491 * N + 20013 * G2) (by omega) (by omega) (kk _ G2 hW hx hm hg hr hG2)
      refine J_if_eq (tgt := 828) dL_law_821 (by decide) (fun c => ?_) (fun c => ?_)
      · skip
        refine J_iconst (v := 0) dL_law_828 (by decide) ?_
        rw [hwz c] at Kb821
        exact Kb821
      · skip
        refine J_iconst (v := 1) dL_law_824 (by decide) ?_
        refine J_goto (tgt := 829) dL_law_825 (by decide) ?_
        rw [hwo c] at Kb821
        exact Kb821
    refine Jw_callV1 (q9 := (RX6, TX6, 7)) moX6_ways jw_ml_L_94 jw_im_X6_ways jw_se_X6_ways hx rfl rfl dL_law_811 (w_X6_ways 999 _ ax w (by decide) hW hx ) (by decide) (Nat.zero_le _) (Nat.zero_le _) (Nat.le_of_ble_eq_true rfl) (fun r V3 h => ?_)
    obtain ⟨⟨hW2, he, y1, rfl, hy1⟩, hkp⟩ := h
    exact J.less (kc' := 5 * N + 8 * (G)) (ks' := 491 * N + 20013 * (G)) (by omega) (by omega) (K _ (G) _ hW2 (hx.mono he.1) (hm.mono he.1) (hg.keep he (jnot_of rfl) (jnot_of rfl)) (hr.ways he hkp (jdis_of rfl)) (Nat.le_refl _))
  refine J_if_eq (tgt := 810) dL_law_803 (by decide) (fun c => ?_) (fun c => ?_)
  · skip
    refine J_iconst (v := 0) dL_law_810 (by decide) ?_
    rw [hwz c] at Kb803
    exact Kb803
  · skip
    refine J_iconst (v := 1) dL_law_806 (by decide) ?_
    refine J_goto (tgt := 811) dL_law_807 (by decide) ?_
    rw [hwo c] at Kb803
    exact Kb803
set_option maxRecDepth 100000 in
set_option maxHeartbeats 4000000 in
theorem lawc_20 {tS : jTS} {b L : Nat} {xs : Nat → Int32} (hs9 : tS.2 = some (b, L, xs)) (V : jH) (ax am : Nat) (i : Int32) (G N : Nat) {Q : Option Value → jH → Prop} (hW : WT V) (hx : jis V (.inr 4) ax) (hm : jis V (.inr 5) am) (hg : jphi V ax G) (hr : jRL V ax am) (hin1 : vp_in (i + 1) L) (hin2 : vp_in (i + 2) L) (hin3 : vp_in (i + 3) L) (kk : ∀ (V2 : jH) (G2 : Nat), WT V2 → jis V2 (.inr 4) ax → jis V2 (.inr 5) am → jphi V2 ax G2 → jRL V2 ax am → G2 ≤ G → J tS mL_law 1000 909 [some (.ref b), some (.ref ax), some (.ref am), some (.int i)] [] V2 (5 * N + 8 * G2) (491 * N + 20013 * G2) Q) : J tS mL_law 1000 836 [some (.ref b), some (.ref ax), some (.ref am), some (.int i)] [] V (5 * (N + 1) + 8 * G) (491 * (N + 1) + 20013 * G) Q := by
  refine J_aload_n dL_law_836 rfl ?_
  refine J_aload_n dL_law_837 rfl ?_
  refine J_iload_n dL_law_838 rfl ?_
  refine J_iconst (v := 1) dL_law_839 (by decide) ?_
  refine J_iadd dL_law_840 ?_
  refine J_sld hs9 dL_law_841 hin1 ?_
  have K : ∀ (V2 : jH) (G2 : Nat) (y1 : Int32), WT V2 → jis V2 (.inr 4) ax → jis V2 (.inr 5) am → jphi V2 ax G2 → jRL V2 ax am → G2 ≤ G → J tS mL_law 1000 845 [some (.ref b), some (.ref ax), some (.ref am), some (.int i)] [.int y1] V2 (5 * N + 8 * G2) (491 * N + 20013 * G2) Q := by
    intro V2 G2 y1 hW hx hm hg hr hG2
    refine J_pop dL_law_845 rfl ?_
    refine J_aload_n dL_law_846 rfl ?_
    refine J_aload_n dL_law_847 rfl ?_
    refine J_iload_n dL_law_848 rfl ?_
    refine J_iconst (v := 1) dL_law_849 (by decide) ?_
    refine J_iadd dL_law_850 ?_
    refine J_sld hs9 dL_law_851 hin1 ?_
    refine Jw_callV1 (q9 := (RX7, TX7, 34)) moX7_waysOf jw_ml_L_102 jw_im_X7_waysOf jw_se_X7_waysOf hm rfl rfl dL_law_852 (w_X7_waysOf 999 _ am (xs (i + 1).toNatClampNeg) (by decide) hW hm ) (by decide) (Nat.zero_le _) (Nat.zero_le _) (Nat.le_of_ble_eq_true rfl) (fun r V3 h => ?_)
    obtain ⟨⟨hW, he, y2, rfl, hy2⟩, hkp⟩ := h
    have hx := hx.mono he.1
    have hm := hm.mono he.1
    have hg := hg.keep he (jnot_of rfl) (jnot_of rfl)
    have hr := hr.ref he hkp (by decide) (jdis_of rfl)
    refine J_pop dL_law_855 rfl ?_
    refine J_goto (tgt := 909) dL_law_856 (by decide) ?_
    exact J.less (kc' := 5 * N + 8 * G2) (ks' := 491 * N + 20013 * G2) (by omega) (by omega) (kk _ G2 hW hx hm hg hr hG2)
  refine Jw_callV1 (q9 := (RX6, TX6, 7)) moX6_waysOf jw_ml_L_99 jw_im_X6_waysOf jw_se_X6_waysOf hx rfl rfl dL_law_842 (w_X6_waysOf 999 _ ax (xs (i + 1).toNatClampNeg) (by decide) hW hx ) (by decide) (Nat.zero_le _) (Nat.zero_le _) (Nat.le_of_ble_eq_true rfl) (fun r V3 h => ?_)
  obtain ⟨⟨hW2, he, y1, rfl, hy1⟩, hkp⟩ := h
  exact J.less (kc' := 5 * N + 8 * (G)) (ks' := 491 * N + 20013 * (G)) (by omega) (by omega) (K _ (G) _ hW2 (hx.mono he.1) (hm.mono he.1) (hg.keep he (jnot_of rfl) (jnot_of rfl)) (hr.ways he hkp (jdis_of rfl)) (Nat.le_refl _))
set_option maxRecDepth 100000 in
set_option maxHeartbeats 4000000 in
theorem lawc_21 {tS : jTS} {b L : Nat} {xs : Nat → Int32} (hs9 : tS.2 = some (b, L, xs)) (V : jH) (ax am : Nat) (i : Int32) (G N : Nat) {Q : Option Value → jH → Prop} (hW : WT V) (hx : jis V (.inr 4) ax) (hm : jis V (.inr 5) am) (hg : jphi V ax G) (hr : jRL V ax am) (hin1 : vp_in (i + 1) L) (hin2 : vp_in (i + 2) L) (hin3 : vp_in (i + 3) L) (kk : ∀ (V2 : jH) (G2 : Nat), WT V2 → jis V2 (.inr 4) ax → jis V2 (.inr 5) am → jphi V2 ax G2 → jRL V2 ax am → G2 ≤ G → J tS mL_law 1000 909 [some (.ref b), some (.ref ax), some (.ref am), some (.int i)] [] V2 (5 * N + 8 * G2) (491 * N + 20013 * G2) Q) : J tS mL_law 1000 859 [some (.ref b), some (.ref ax), some (.ref am), some (.int i)] [] V (5 * (N + 1) + 8 * G) (491 * (N + 1) + 20013 * G) Q := by
  refine J_aload_n dL_law_859 rfl ?_
  have K : ∀ (V2 : jH) (G2 : Nat) (y1 : Int32), WT V2 → jis V2 (.inr 4) ax → jis V2 (.inr 5) am → jphi V2 ax G2 → jRL V2 ax am → G2 ≤ G → J tS mL_law 1000 863 [some (.ref b), some (.ref ax), some (.ref am), some (.int i)] [.int y1] V2 (5 * N + 8 * G2) (491 * N + 20013 * G2) Q := by
    intro V2 G2 y1 hW hx hm hg hr hG2
    refine J_pop dL_law_863 rfl ?_
    refine J_aload_n dL_law_864 rfl ?_
    refine Jw_callV0 (q9 := (RX7, TX7, 34)) moX7_shortest jw_ml_L_107 jw_im_X7_shortest jw_se_X7_shortest hm rfl rfl dL_law_865 (w_X7_shortest 999 _ am  (by decide) hW hm ) (by decide) (Nat.zero_le _) (Nat.zero_le _) (Nat.le_of_ble_eq_true rfl) (fun r V3 h => ?_)
    obtain ⟨⟨hW, he, y2, rfl, hy2⟩, hkp⟩ := h
    have hx := hx.mono he.1
    have hm := hm.mono he.1
    have hg := hg.keep he (jnot_of rfl) (jnot_of rfl)
    have hr := hr.ref he hkp (by decide) (jdis_of rfl)
    refine J_pop dL_law_868 rfl ?_
    refine J_goto (tgt := 909) dL_law_869 (by decide) ?_
    exact J.less (kc' := 5 * N + 8 * G2) (ks' := 491 * N + 20013 * G2) (by omega) (by omega) (kk _ G2 hW hx hm hg hr hG2)
  refine Jw_callV0 (q9 := (RX6, TX6, 7)) moX6_shortest jw_ml_L_103 jw_im_X6_shortest jw_se_X6_shortest hx rfl rfl dL_law_860 (w_X6_shortest 999 _ ax  (by decide) hW hx ) (by decide) (Nat.zero_le _) (Nat.zero_le _) (Nat.le_of_ble_eq_true rfl) (fun r V3 h => ?_)
  obtain ⟨⟨y1, rfl, hy1⟩, hE⟩ := h
  subst hE
  exact J.less (kc' := 5 * N + 8 * (G)) (ks' := 491 * N + 20013 * (G)) (by omega) (by omega) (K _ (G) _ hW hx hm hg hr (Nat.le_refl _))
set_option maxRecDepth 100000 in
set_option maxHeartbeats 4000000 in
theorem lawc_22 {tS : jTS} {b L : Nat} {xs : Nat → Int32} (hs9 : tS.2 = some (b, L, xs)) (V : jH) (ax am : Nat) (i : Int32) (G N : Nat) {Q : Option Value → jH → Prop} (hW : WT V) (hx : jis V (.inr 4) ax) (hm : jis V (.inr 5) am) (hg : jphi V ax G) (hr : jRL V ax am) (hin1 : vp_in (i + 1) L) (hin2 : vp_in (i + 2) L) (hin3 : vp_in (i + 3) L) (kk : ∀ (V2 : jH) (G2 : Nat), WT V2 → jis V2 (.inr 4) ax → jis V2 (.inr 5) am → jphi V2 ax G2 → jRL V2 ax am → G2 ≤ G → J tS mL_law 1000 909 [some (.ref b), some (.ref ax), some (.ref am), some (.int i)] [] V2 (5 * N + 8 * G2) (491 * N + 20013 * G2) Q) : J tS mL_law 1000 872 [some (.ref b), some (.ref ax), some (.ref am), some (.int i)] [] V (5 * (N + 1) + 8 * G) (491 * (N + 1) + 20013 * G) Q := by
  refine J_aload_n dL_law_872 rfl ?_
  refine J_aload_n dL_law_873 rfl ?_
  refine J_iload_n dL_law_874 rfl ?_
  refine J_iconst (v := 1) dL_law_875 (by decide) ?_
  refine J_iadd dL_law_876 ?_
  refine J_sld hs9 dL_law_877 hin1 ?_
  obtain ⟨hrl, hp, hff⟩ := id hr
  obtain ⟨pl, rh, pw, ph, po, HH, r1, r2, c1, c2, c3, m1, m2, hH, hbd, hbt⟩ := jpl.parts hp
  obtain ⟨k9, hk1, hk2⟩ := hrl.cnt
  have hcn := jpl_cnt hbd hbt (fun k hk => (WT_rngI (r := (0, 1)) hW id rfl hH).2 k hk)
  refine Jw_callV1 (q9 := (RX6, TX6, 7)) moX6_count jw_ml_L_108 jw_im_X6_count jw_se_X6_count hx rfl rfl dL_law_878 (w_X6_count_z 999 _ ax (xs (i + 1).toNatClampNeg) k9 pl pw ph po (by decide) hW hx hk1 r1 c1 c2 c3) (by decide) (Nat.zero_le _) (Nat.zero_le _) (Nat.le_of_ble_eq_true rfl) (fun r V4 h => ?_)
  obtain ⟨⟨y1, rfl, -, -, hy1⟩, hE⟩ := h
  have hE := hE.symm
  subst hE
  refine J.less (kc' := 5 * N + 8 * G) (ks' := 491 * N + 20013 * G) (by omega) (by omega) ?_
  obtain ⟨G2, hGe⟩ : ∃ G2 : Nat, G2 = G := ⟨_, rfl⟩
  have hG2 : G2 ≤ G := Nat.le_of_eq hGe
  rw [← hGe] at hg ⊢
  refine J_pop dL_law_881 rfl ?_
  refine J_aload_n dL_law_882 rfl ?_
  refine J_aload_n dL_law_883 rfl ?_
  refine J_iload_n dL_law_884 rfl ?_
  refine J_iconst (v := 1) dL_law_885 (by decide) ?_
  refine J_iadd dL_law_886 ?_
  refine J_sld hs9 dL_law_887 hin1 ?_
  refine Jw_callV1 (q9 := (RX7, TX7, 34)) moX7_count jw_ml_L_111 jw_im_X7_count jw_se_X7_count hm rfl rfl dL_law_888 (w_X7_count_z 999 _ am (xs (i + 1).toNatClampNeg) k9 pw ph rh HH (by decide) hW hm hk2 m1 m2 r2 hH hbd.1 hbd.2.1 hbd.2.2.1 hbd.2.2.2) (by decide) (Nat.zero_le _) (Nat.zero_le _) (Nat.le_of_ble_eq_true rfl) (fun r V3 h => ?_)
  obtain ⟨⟨y2, rfl, -, -, hy2⟩, hE⟩ := h
  have hE := hE.symm
  subst hE
  refine J_pop dL_law_891 rfl ?_
  refine J_goto (tgt := 909) dL_law_892 (by decide) ?_
  exact J.less (kc' := 5 * N + 8 * G2) (ks' := 491 * N + 20013 * G2) (by omega) (by omega) (kk _ G2 hW hx hm hg hr hG2)
set_option maxRecDepth 100000 in
set_option maxHeartbeats 4000000 in
theorem lawc_23 {tS : jTS} {b L : Nat} {xs : Nat → Int32} (hs9 : tS.2 = some (b, L, xs)) (V : jH) (ax am : Nat) (i : Int32) (G N : Nat) {Q : Option Value → jH → Prop} (hW : WT V) (hx : jis V (.inr 4) ax) (hm : jis V (.inr 5) am) (hg : jphi V ax G) (hr : jRL V ax am) (hin1 : vp_in (i + 1) L) (hin2 : vp_in (i + 2) L) (hin3 : vp_in (i + 3) L) (kk : ∀ (V2 : jH) (G2 : Nat), WT V2 → jis V2 (.inr 4) ax → jis V2 (.inr 5) am → jphi V2 ax G2 → jRL V2 ax am → G2 ≤ G → J tS mL_law 1000 909 [some (.ref b), some (.ref ax), some (.ref am), some (.int i)] [] V2 (5 * N + 8 * G2) (491 * N + 20013 * G2) Q) : J tS mL_law 1000 895 [some (.ref b), some (.ref ax), some (.ref am), some (.int i)] [] V (5 * (N + 1) + 8 * G) (491 * (N + 1) + 20013 * G) Q := by
  refine J_aload_n dL_law_895 rfl ?_
  obtain ⟨hs, hp, hff⟩ := id hr
  obtain ⟨k, md, gr, mn, sp, f, GA, MN, SP, A, T, hc1, hr1, ht1, hk, hrows, hsp⟩ := id hs
  obtain ⟨ck, cmd, cA, ctr⟩ := id hc1
  obtain ⟨rk, rgr, rmn, rsp, rGA, rMN, rSP⟩ := id hr1
  obtain ⟨rw, px, py, pz, RW, PX, PY, PZ, q4, q6, q7, q8, b4, b6, b7, b8⟩ := WT_ref hW hm
  obtain ⟨pl, rh, pw, ph, po, HH, p1, p2, c1, c2, c3, m1, m2, hH, hbd, hbt⟩ := jpl.parts hp
  obtain ⟨cn, hcn⟩ := jcn_ex (t := fun n => (jbt po n).toNat) (fun i _ => by cases jbt po i <;> decide)
  have hcn7 := hcn.trans (jpl_cnt hbd hbt (fun k hk => (WT_rngI (r := (0, 1)) hW id rfl hH).2 k hk))
  refine Jw_callV0 (q9 := (RX6, TX6, 7)) moX6_digest jw_ml_L_112 jw_im_X6_digest jw_se_X6_digest hx rfl rfl dL_law_896 (w_X6_digest_z 999 _ ax k md pl pw ph po f A GA MN SP cn (by decide) hW hx ck cmd p1 c1 c2 c3 cA hrows hbd.1 hbd.2.1 hbd.2.2.1 hbd.2.2.2 hcn) (by decide) (Nat.zero_le _) (Nat.zero_le _) (Nat.le_of_ble_eq_true rfl) (fun r V4 h => ?_)
  obtain ⟨⟨y1, rfl, hy1⟩, hE⟩ := h
  have hE := hE.symm
  subst hE
  refine J.less (kc' := 5 * N + 8 * G) (ks' := 491 * N + 20013 * G) (by omega) (by omega) ?_
  obtain ⟨G2, hGe⟩ : ∃ G2 : Nat, G2 = G := ⟨_, rfl⟩
  have hG2 : G2 ≤ G := Nat.le_of_eq hGe
  rw [← hGe] at hg ⊢
  refine J_aload_n dL_law_899 rfl ?_
  refine Jw_callV0 (q9 := (RX7, TX7, 34)) moX7_digest jw_ml_L_116 jw_im_X7_digest jw_se_X7_digest hm rfl rfl dL_law_900 (w_X7_digest_z 999 _ am k pw ph gr mn sp rh cn GA MN SP HH (by decide) hW hm rk m1 m2 rgr rmn rsp p2 rGA rMN rSP hH hbd.1 hbd.2.1 hbd.2.2.1 hbd.2.2.2 hcn7) (by decide) (Nat.zero_le _) (Nat.zero_le _) (Nat.le_of_ble_eq_true rfl) (fun r V3 h => ?_)
  obtain ⟨⟨y2, rfl, hy2⟩, hE⟩ := h
  have hE := hE.symm
  subst hE
  have hyL : y1 = y2 := by rw [hy1, hy2]; exact jdh_congr _ _ (jpl_dig hbd hbt)
  refine Jz_lcmp dL_law_903 (fun yc hyc => ?_)
  refine J_if_eq (tgt := 909) dL_law_904 (by decide) (fun _ => ?_) (fun c => absurd (jI_inj.mp (show yc.toInt = (0 : Int32).toInt from hyc.mpr hyL)) c)
  exact J.less (kc' := 5 * N + 8 * G2) (ks' := 491 * N + 20013 * G2) (by omega) (by omega) (kk _ G2 hW hx hm hg hr hG2)
