set_option maxRecDepth 100000 in
set_option maxHeartbeats 8000000 in
theorem w_X7_counts_z_s276 {tS : jTS} (d : Nat) (V0 : jH) (a0 : Nat) (x1 : Int32) (x2 : Int32) (rw : Nat) (px : Nat) (py : Nat) (pz : Nat) (kn : Nat) (co : Nat) (sq : Nat) (rg : Nat) (bg : Nat) (se : Nat) (hx : Nat) (RW : Nat → Int32) (PX : Nat → Int32) (PY : Nat → Int32) (PZ : Nat → Int32) (KN : Nat → Int32) (CO : Nat → Int32) (SQ : Nat → Int64) (RG : Nat → Int32) (BG : Nat → Int32) (SE : Nat → Int32) (HX : Nat → Int32) (Q : Option Value → jH → Prop) (N : Nat) (i4n92 : Int32) (i5n92 : Int32) (gs92a0 : List Value) (F17n92 : Nat → Int32) (F18n92 : Nat → Int32) (F19n92 : Nat → Int32) (F20n92 : Nat → Int32) (F23n92 : Nat → Int32) (F46n92 : Nat → Int64) (F24n92 : Nat → Int32) (F25n92 : Nat → Int32) (F41n92 : Nat → Int32) (F26n92 : Nat → Int32) (y5 : Int32) (y251 : Int32) (y168 : Int32) (y184 : Int32) (y215 : Int32) (y231 : Int32) (y108 : Int32) (y110 : Int32) (y177 : Int32) (y193 : Int32) (y224 : Int32) (V111 : jH) (G23 : Nat → Int32) (G111 : Nat → Int32) (hQ : ∀ (r : Option Value) (V : jH), (fun r V => (jPost [.inr 5, .inl 40, .inl 23, .inl 17, .inl 18, .inl 19, .inl 20, .inl 41, .inl 26, .inl 46, .inl 24, .inl 25] V0 rV) r V ∧ (∃ (KN2 CO2 : Nat → Int32) (SQ2 : Nat → Int64) (RG2 BG2 SE2 : Nat → Int32), V kn = some (.inl (40, 84, .inl KN2)) ∧ V co = some (.inl (23, 84, .inl CO2)) ∧ V sq = some (.inl (46, 84, .inr (.inl SQ2))) ∧ V rg = some (.inl (24, 84, .inl RG2)) ∧ V bg = some (.inl (25, 84, .inl BG2)) ∧ V se = some (.inl (41, 79507, .inl SE2)) ∧ jsn SE2 [] ∧ (KN2 (21 * x1.toInt + x2.toInt).toNat).toInt = 1 ∧ jmk x1.toInt x2.toInt.toNat CO2 SQ2 RG2 BG2 (21 * x1.toInt + x2.toInt).toNat ∧ (∀ j : Nat, j ≠ (21 * x1.toInt + x2.toInt).toNat → KN2 j = KN j) ∧ jot CO2 SQ2 RG2 BG2 CO SQ RG BG (21 * x1.toInt + x2.toInt).toNat) ∧ jkc 5 [0, 23, 24] V0 V) r V → Q r V) (hm : ((600001 - i4n92.toInt) * 1000 + (i5n92.toInt + 1) * 10 + (7 - (F17n92 i5n92.toInt.toNat).toInt)).toNat < N + 1) (hall : 0 ≤ i4n92.toInt ∧ i4n92.toInt ≤ 600000) (hrow : ∀ k : Nat, (k : Int) ≤ i5n92.toInt → -1 ≤ (F17n92 k).toInt ∧ (F17n92 k).toInt < jdir x1.toInt) (hpl : ∀ k : Nat, (k : Int) ≤ i5n92.toInt → jnb x1.toInt k (jPf F18n92 F19n92 F20n92 k)) (hnd : ∀ i k : Nat, i < k → (k : Int) ≤ i5n92.toInt → ¬ jPf F18n92 F19n92 F20n92 k = jPf F18n92 F19n92 F20n92 i) (hse : jsn F41n92 (jplb (jPf F18n92 F19n92 F20n92) (i5n92.toInt + 1).toNat)) (hhx : ∀ k : Nat, (k : Int) ≤ i5n92.toInt → (F26n92 k).toInt = jtp (jpl3 (jPf F18n92 F19n92 F20n92) k)) (hco : 0 ≤ (F23n92 (21 * x1.toInt + x2.toInt).toNat).toInt ∧ (F23n92 (21 * x1.toInt + x2.toInt).toNat).toInt ≤ i4n92.toInt + 1) (ho5 : jot F23n92 F46n92 F24n92 F25n92 CO SQ RG BG (21 * x1.toInt + x2.toInt).toNat) (ih92 : ∀ (V : jH) (i4n92 : Int32) (i5n92 : Int32) (gs92a0 : List Value) (F17n92 : Nat → Int32) (F18n92 : Nat → Int32) (F19n92 : Nat → Int32) (F20n92 : Nat → Int32) (F23n92 : Nat → Int32) (F46n92 : Nat → Int64) (F24n92 : Nat → Int32) (F25n92 : Nat → Int32) (F41n92 : Nat → Int32) (F26n92 : Nat → Int32), WT V → jeff [.inr 5, .inl 40, .inl 23, .inl 17, .inl 18, .inl 19, .inl 20, .inl 41, .inl 26, .inl 46, .inl 24, .inl 25] V0 V → (jis V (.inr 5) a0) → (jis V (.inl 17) rw) → (jis V (.inl 18) px) → (jis V (.inl 19) py) → (jis V (.inl 20) pz) → (jis V (.inl 40) kn) → (jis V (.inl 23) co) → (jis V (.inl 46) sq) → (jis V (.inl 24) rg) → (jis V (.inl 25) bg) → (jis V (.inl 41) se) → (jis V (.inl 26) hx) → (jkc 5 [0, 23, 24] V0 V) → (V a0 = some (.inr (5, gs92a0))) → (gs92a0[4]? = some (.ref rw)) → (gs92a0[6]? = some (.ref px)) → (gs92a0[7]? = some (.ref py)) → (gs92a0[8]? = some (.ref pz)) → (gs92a0[11]? = some (.ref kn)) → (gs92a0[12]? = some (.ref co)) → (gs92a0[13]? = some (.ref sq)) → (gs92a0[14]? = some (.ref rg)) → (gs92a0[15]? = some (.ref bg)) → (gs92a0[16]? = some (.ref se)) → (gs92a0[17]? = some (.ref hx)) → (V rw = some (.inl (17, 120, .inl F17n92))) → (V px = some (.inl (18, 121, .inl F18n92))) → (V py = some (.inl (19, 121, .inl F19n92))) → (V pz = some (.inl (20, 121, .inl F20n92))) → (V co = some (.inl (23, 84, .inl F23n92))) → (V sq = some (.inl (46, 84, .inr (.inl F46n92)))) → (V rg = some (.inl (24, 84, .inl F24n92))) → (V bg = some (.inl (25, 84, .inl F25n92))) → (V se = some (.inl (41, 79507, .inl F41n92))) → (V hx = some (.inl (26, 22, .inl F26n92))) → (V kn = some (.inl (40, 84, .inl G23))) → (-1 ≤ i5n92.toInt ∧ i5n92.toInt ≤ 19 ∧ (i5n92.toInt < x2.toInt ∨ x2.toInt = 0)) → (0 ≤ i4n92.toInt ∧ i4n92.toInt ≤ 600000) → (∀ k : Nat, (k : Int) ≤ i5n92.toInt → -1 ≤ (F17n92 k).toInt ∧ (F17n92 k).toInt < jdir x1.toInt) → (∀ k : Nat, (k : Int) ≤ i5n92.toInt → jnb x1.toInt k (jPf F18n92 F19n92 F20n92 k)) → (∀ i k : Nat, i < k → (k : Int) ≤ i5n92.toInt → ¬ jPf F18n92 F19n92 F20n92 k = jPf F18n92 F19n92 F20n92 i) → (jsn F41n92 (jplb (jPf F18n92 F19n92 F20n92) (i5n92.toInt + 1).toNat)) → (∀ k : Nat, (k : Int) ≤ i5n92.toInt → (F26n92 k).toInt = jtp (jpl3 (jPf F18n92 F19n92 F20n92) k)) → (1 ≤ x2.toInt → jrS x1.toInt x2.toInt.toNat i5n92.toInt i4n92.toInt (jac F23n92 F46n92 F24n92 F25n92 (21 * x1.toInt + x2.toInt).toNat) F18n92 F19n92 F20n92 F17n92) → (0 ≤ (F23n92 (21 * x1.toInt + x2.toInt).toNat).toInt ∧ (F23n92 (21 * x1.toInt + x2.toInt).toNat).toInt ≤ i4n92.toInt + 1) → (x2.toInt = 0 → (F23n92 (21 * x1.toInt + x2.toInt).toNat).toInt = 1 ∧ F46n92 (21 * x1.toInt + x2.toInt).toNat = 0 ∧ F24n92 (21 * x1.toInt + x2.toInt).toNat = 0 ∧ F25n92 (21 * x1.toInt + x2.toInt).toNat = 0 ∧ i5n92.toInt = 0) → (jot F23n92 F46n92 F24n92 F25n92 CO SQ RG BG (21 * x1.toInt + x2.toInt).toNat) → ((600001 - i4n92.toInt) * 1000 + (i5n92.toInt + 1) * 10 + (7 - (F17n92 i5n92.toInt.toNat).toInt)).toNat < N → J tS mX7_counts d 92 [some (.ref a0), some (.int x1), some (.int x2), some (.int y5), some (.int i4n92), some (.int i5n92), none, none, none, none] [] V 0 0 Q) (hd : 2 ≤ d) (hp0 : 0 ≤ x1.toInt) (hp1 : x1.toInt ≤ 3) (hp2 : 0 ≤ x2.toInt) (hp3 : x2.toInt ≤ 20) (hp4 : jsn SE []) (hp5 : jmo x1.toInt x2.toInt.toNat KN CO SQ RG BG (21 * x1.toInt + x2.toInt).toNat) (hW : WT V111) (he : jeff [.inr 5, .inl 40, .inl 23, .inl 17, .inl 18, .inl 19, .inl 20, .inl 41, .inl 26, .inl 46, .inl 24, .inl 25] V0 V111) (hkp : jkc 5 [0, 23, 24] V0 V111) (hbq276_a0 : jis V111 (.inr 5) a0) (hbq276_rw : jis V111 (.inl 17) rw) (hbq276_px : jis V111 (.inl 18) px) (hbq276_py : jis V111 (.inl 19) py) (hbq276_pz : jis V111 (.inl 20) pz) (hbq276_kn : jis V111 (.inl 40) kn) (hbq276_co : jis V111 (.inl 23) co) (hbq276_sq : jis V111 (.inl 46) sq) (hbq276_rg : jis V111 (.inl 24) rg) (hbq276_bg : jis V111 (.inl 25) bg) (hbq276_se : jis V111 (.inl 41) se) (hbq276_hx : jis V111 (.inl 26) hx) (hOq276_a0 : V111 a0 = some (.inr (5, gs92a0))) (hKq276_a0 : jokO V111 (jFs 5) gs92a0) (hFgs92a0_4 : gs92a0[4]? = some (.ref rw)) (hFgs92a0_6 : gs92a0[6]? = some (.ref px)) (hFgs92a0_7 : gs92a0[7]? = some (.ref py)) (hFgs92a0_8 : gs92a0[8]? = some (.ref pz)) (hFgs92a0_11 : gs92a0[11]? = some (.ref kn)) (hFgs92a0_12 : gs92a0[12]? = some (.ref co)) (hFgs92a0_13 : gs92a0[13]? = some (.ref sq)) (hFgs92a0_14 : gs92a0[14]? = some (.ref rg)) (hFgs92a0_15 : gs92a0[15]? = some (.ref bg)) (hFgs92a0_16 : gs92a0[16]? = some (.ref se)) (hFgs92a0_17 : gs92a0[17]? = some (.ref hx)) (haq276_px : V111 px = some (.inl (18, 121, .inl F18n92))) (haq276_py : V111 py = some (.inl (19, 121, .inl F19n92))) (haq276_pz : V111 pz = some (.inl (20, 121, .inl F20n92))) (haq276_co : V111 co = some (.inl (23, 84, .inl F23n92))) (haq276_sq : V111 sq = some (.inl (46, 84, .inr (.inl F46n92)))) (haq276_rg : V111 rg = some (.inl (24, 84, .inl F24n92))) (haq276_bg : V111 bg = some (.inl (25, 84, .inl F25n92))) (haq276_se : V111 se = some (.inl (41, 79507, .inl F41n92))) (haq276_hx : V111 hx = some (.inl (26, 22, .inl F26n92))) (haq276_kn : V111 kn = some (.inl (40, 84, .inl G23))) (hA111 : V111 rw = some (.inl (17, 120, .inl G111))) (he5 : jEq y5.toInt ((21) * (x1.toInt) + x2.toInt)) (he251 : jEq y251.toInt (i4n92.toInt + 1)) (he168 : jEq y168.toInt (y108.toInt + 1)) (he184 : jEq y184.toInt (y177.toInt + (jsx (x1.toInt) (y108.toInt + 1)))) (he215 : jEq y215.toInt (y193.toInt + (jsy (x1.toInt) (y108.toInt + 1) (y177.toInt + y193.toInt)))) (he231 : jEq y231.toInt (y224.toInt + (jsz (x1.toInt) (y108.toInt + 1)))) (he110 : jEq y110.toInt (y108.toInt + 1)) (hjb : 3 ≤ jdir x1.toInt ∧ jdir x1.toInt ≤ 6) (hdx : i5n92.toInt < x2.toInt) (hd19 : i5n92.toInt ≤ 19) (hremQ : jrS x1.toInt x2.toInt.toNat i5n92.toInt i4n92.toInt (jac F23n92 F46n92 F24n92 F25n92 (21 * x1.toInt + x2.toInt).toNat) F18n92 F19n92 F20n92 F17n92) (c94 : ¬ i5n92.toInt < 0) (c98 : ¬ x2.toInt ≤ 0) (hb108 : -1 ≤ y108.toInt ∧ y108.toInt < jdir x1.toInt) (e108 : (F17n92 i5n92.toInt.toNat).toInt = y108.toInt) (hp111 : G111 i5n92.toInt.toNat = y110) (ho111 : ∀ k : Nat, k ≠ i5n92.toInt.toNat → G111 k = F17n92 k) (c123 : ¬ y108.toInt + 1 = jdir x1.toInt) (hq0 : jnb x1.toInt i5n92.toInt.toNat ((jPf F18n92 F19n92 F20n92) i5n92.toInt.toNat)) (e177 : (F18n92 i5n92.toInt.toNat).toInt = y177.toInt) (e193 : (F19n92 i5n92.toInt.toNat).toInt = y193.toInt) (e224 : (F20n92 i5n92.toInt.toNat).toInt = y224.toInt) (hbnd : (-i5n92.toInt ≤ y177.toInt ∧ y177.toInt ≤ i5n92.toInt) ∧ (-i5n92.toInt ≤ y193.toInt ∧ y193.toInt ≤ i5n92.toInt) ∧ (-i5n92.toInt ≤ y224.toInt ∧ y224.toInt ≤ i5n92.toInt)) (hbsx : -1 ≤ jsx x1.toInt (y108.toInt + 1) ∧ jsx x1.toInt (y108.toInt + 1) ≤ 1) (hbsy : -1 ≤ jsy x1.toInt (y108.toInt + 1) (y177.toInt + y193.toInt) ∧ jsy x1.toInt (y108.toInt + 1) (y177.toInt + y193.toInt) ≤ 1) (hbsz : -1 ≤ jsz x1.toInt (y108.toInt + 1) ∧ jsz x1.toInt (y108.toInt + 1) ≤ 1) (c258 : i4n92.toInt + 1 ≤ 600000) (hPJ : jnx x1.toInt (y108.toInt + 1) ((jPf F18n92 F19n92 F20n92) i5n92.toInt.toNat) = ((y177.toInt + jsx x1.toInt (y108.toInt + 1)), (y193.toInt + jsy x1.toInt (y108.toInt + 1) (y177.toInt + y193.toInt)), (y224.toInt + jsz x1.toInt (y108.toInt + 1)))) (hnbN : jnb x1.toInt (i5n92.toInt.toNat + 1) ((y177.toInt + jsx x1.toInt (y108.toInt + 1)), (y193.toInt + jsy x1.toInt (y108.toInt + 1) (y177.toInt + y193.toInt)), (y224.toInt + jsz x1.toInt (y108.toInt + 1)))) (hbxN : jbx ((y177.toInt + jsx x1.toInt (y108.toInt + 1)), (y193.toInt + jsy x1.toInt (y108.toInt + 1) (y177.toInt + y193.toInt)), (y224.toInt + jsz x1.toInt (y108.toInt + 1)))) (hsb : 0 ≤ jspot ((y177.toInt + jsx x1.toInt (y108.toInt + 1)), (y193.toInt + jsy x1.toInt (y108.toInt + 1) (y177.toInt + y193.toInt)), (y224.toInt + jsz x1.toInt (y108.toInt + 1))) ∧ jspot ((y177.toInt + jsx x1.toInt (y108.toInt + 1)), (y193.toInt + jsy x1.toInt (y108.toInt + 1) (y177.toInt + y193.toInt)), (y224.toInt + jsz x1.toInt (y108.toInt + 1))) ≤ 79506) (hnin : ¬ ((y177.toInt + jsx x1.toInt (y108.toInt + 1)), (y193.toInt + jsy x1.toInt (y108.toInt + 1) (y177.toInt + y193.toInt)), (y224.toInt + jsz x1.toInt (y108.toInt + 1))) ∈ (jpl3 (jPf F18n92 F19n92 F20n92) i5n92.toInt.toNat)) (htp : jEq (jtp (((y177.toInt + jsx x1.toInt (y108.toInt + 1)), (y193.toInt + jsy x1.toInt (y108.toInt + 1) (y177.toInt + y193.toInt)), (y224.toInt + jsz x1.toInt (y108.toInt + 1))) :: (jpl3 (jPf F18n92 F19n92 F20n92) i5n92.toInt.toNat))) (if (y177.toInt + jsx x1.toInt (y108.toInt + 1)) ≤ 0 ∨ jtp (jpl3 (jPf F18n92 F19n92 F20n92) i5n92.toInt.toNat) < 0 then -1 else if jtp (jpl3 (jPf F18n92 F19n92 F20n92) i5n92.toInt.toNat) < (y177.toInt + jsx x1.toInt (y108.toInt + 1)) then (y177.toInt + jsx x1.toInt (y108.toInt + 1)) else jtp (jpl3 (jPf F18n92 F19n92 F20n92) i5n92.toInt.toNat))) : J tS mX7_counts d 276 [some (.ref a0), some (.int x1), some (.int x2), some (.int y5), some (.int y251), some (.int i5n92), some (.int y168), some (.int y184), some (.int y215), some (.int y231)] [] V111 0 0 Q := by
  obtain ⟨hN9, hv276_px⟩ := WT_rngI (r := ((-2147483648), 2147483647)) hW id rfl haq276_px
  clear hN9
  obtain ⟨hN9, hv276_py⟩ := WT_rngI (r := ((-2147483648), 2147483647)) hW id rfl haq276_py
  clear hN9
  obtain ⟨hN9, hv276_pz⟩ := WT_rngI (r := ((-2147483648), 2147483647)) hW id rfl haq276_pz
  clear hN9
  obtain ⟨hN9, hv276_co⟩ := WT_rngI (r := ((-2147483648), 2147483647)) hW id rfl haq276_co
  clear hN9
  obtain ⟨hN9, hv276_rg⟩ := WT_rngI (r := ((-2147483648), 2147483647)) hW id rfl haq276_rg
  clear hN9
  obtain ⟨hN9, hv276_bg⟩ := WT_rngI (r := ((-2147483648), 2147483647)) hW id rfl haq276_bg
  clear hN9
  obtain ⟨hN9, hv276_se⟩ := WT_rngI (r := (0, 1)) hW id rfl haq276_se
  clear hN9
  obtain ⟨hN9, hv276_hx⟩ := WT_rngI (r := ((-2147483648), 2147483647)) hW id rfl haq276_hx
  clear hN9
  obtain ⟨hN9, hv276_kn⟩ := WT_rngI (r := (0, 1)) hW id rfl haq276_kn
  clear hN9
  obtain ⟨hN9, hv276_rw⟩ := WT_rngI (r := ((-2147483648), 2147483647)) hW id rfl hA111
  clear hN9
  refine J_aload_n dX7_counts_276 rfl ?_
  refine J_get jf_X7_22 dX7_counts_277 hOq276_a0 hFgs92a0_6 ?_
  refine J_iload dX7_counts_280 rfl ?_
  refine Jz_iconst 1 dX7_counts_282 (by decide) (fun y282 he282 => ?_)
  refine Jz_iadd jEq.rf he282 dX7_counts_283 (by omega) (by omega) (fun y283 he283 => ?_)
  refine J_iload dX7_counts_284 rfl ?_
  refine Jz_iast (r := ((-2147483648), 2147483647)) he283 he184 hW id dX7_counts_286 haq276_px rfl rfl (by omega) (by omega) (by omega) (by omega) (fun V286 G286 hW hx286 hA286 hp286 ho286 => ?_)
  obtain ⟨hN286, hv286⟩ := WT_rngI (r := ((-2147483648), 2147483647)) hW id rfl hA286
  clear hN286
  have he := he.trans (hx286.sub (jsub_of rfl))
  have hkp := hkp.trans (jkc.of hx286 (jnot_of rfl))
  refine J_aload_n dX7_counts_287 rfl ?_
  refine J_get jf_X7_25 dX7_counts_288 (hx286.2 _ _ hOq276_a0 (jnot_of rfl)) hFgs92a0_7 ?_
  refine J_iload dX7_counts_291 rfl ?_
  refine Jz_iconst 1 dX7_counts_293 (by decide) (fun y293 he293 => ?_)
  refine Jz_iadd jEq.rf he293 dX7_counts_294 (by omega) (by omega) (fun y294 he294 => ?_)
  refine J_iload dX7_counts_295 rfl ?_
  refine Jz_iast (r := ((-2147483648), 2147483647)) he294 he215 hW id dX7_counts_297 (hx286.2 _ _ haq276_py (jnot_of rfl)) rfl rfl (by omega) (by omega) (by omega) (by omega) (fun V297 G297 hW hx297 hA297 hp297 ho297 => ?_)
  obtain ⟨hN297, hv297⟩ := WT_rngI (r := ((-2147483648), 2147483647)) hW id rfl hA297
  clear hN297
  have he := he.trans (hx297.sub (jsub_of rfl))
  have hkp := hkp.trans (jkc.of hx297 (jnot_of rfl))
  refine J_aload_n dX7_counts_298 rfl ?_
  refine J_get jf_X7_28 dX7_counts_299 (hx297.2 _ _ (hx286.2 _ _ hOq276_a0 (jnot_of rfl)) (jnot_of rfl)) hFgs92a0_8 ?_
  refine J_iload dX7_counts_302 rfl ?_
  refine Jz_iconst 1 dX7_counts_304 (by decide) (fun y304 he304 => ?_)
  refine Jz_iadd jEq.rf he304 dX7_counts_305 (by omega) (by omega) (fun y305 he305 => ?_)
  refine J_iload dX7_counts_306 rfl ?_
  refine Jz_iast (r := ((-2147483648), 2147483647)) he305 he231 hW id dX7_counts_308 (hx297.2 _ _ (hx286.2 _ _ haq276_pz (jnot_of rfl)) (jnot_of rfl)) rfl rfl (by omega) (by omega) (by omega) (by omega) (fun V308 G308 hW hx308 hA308 hp308 ho308 => ?_)
  obtain ⟨hN308, hv308⟩ := WT_rngI (r := ((-2147483648), 2147483647)) hW id rfl hA308
  clear hN308
  have he := he.trans (hx308.sub (jsub_of rfl))
  have hkp := hkp.trans (jkc.of hx308 (jnot_of rfl))
  have hPk : ∀ k : Nat, k ≤ i5n92.toInt.toNat → (jPf F18n92 F19n92 F20n92) k = jPf G286 G297 G308 k := fun k hk => by unfold jPf; rw [ho286 k (by omega), ho297 k (by omega), ho308 k (by omega)]
  have hPN : jPf G286 G297 G308 (i5n92.toInt.toNat + 1) = ((y177.toInt + jsx x1.toInt (y108.toInt + 1)), (y193.toInt + jsy x1.toInt (y108.toInt + 1) (y177.toInt + y193.toInt)), (y224.toInt + jsz x1.toInt (y108.toInt + 1))) := by unfold jPf; rw [show i5n92.toInt.toNat + 1 = (i5n92.toInt + 1).toNat by omega, hp286, hp297, hp308, he184.eq, he215.eq, he231.eq]
  refine J_aload_n dX7_counts_309 rfl ?_
  refine J_get jf_X7_58 dX7_counts_310 (hx308.2 _ _ (hx297.2 _ _ (hx286.2 _ _ hOq276_a0 (jnot_of rfl)) (jnot_of rfl)) (jnot_of rfl)) hFgs92a0_17 ?_
  refine J_iload dX7_counts_313 rfl ?_
  refine Jz_iconst 1 dX7_counts_315 (by decide) (fun y315 he315 => ?_)
  refine Jz_iadd jEq.rf he315 dX7_counts_316 (by omega) (by omega) (fun y316 he316 => ?_)
  refine J_iload dX7_counts_317 rfl ?_
  have K360 : ∀ (t0k360 : Int32), (t0k360.toInt = jtp (((y177.toInt + jsx x1.toInt (y108.toInt + 1)), (y193.toInt + jsy x1.toInt (y108.toInt + 1) (y177.toInt + y193.toInt)), (y224.toInt + jsz x1.toInt (y108.toInt + 1))) :: (jpl3 (jPf F18n92 F19n92 F20n92) i5n92.toInt.toNat))) → J tS mX7_counts d 360 [some (.ref a0), some (.int x1), some (.int x2), some (.int y5), some (.int y251), some (.int i5n92), some (.int y168), some (.int y184), some (.int y215), some (.int y231)] [.int t0k360, .int y316, .ref hx] V308 0 0 Q := by
    intro  t0k360     hk360_0
    refine Jz_iast (r := ((-2147483648), 2147483647)) he316 jEq.rf hW id dX7_counts_360 (hx308.2 _ _ (hx297.2 _ _ (hx286.2 _ _ haq276_hx (jnot_of rfl)) (jnot_of rfl)) (jnot_of rfl)) rfl rfl (by omega) (by omega) (j_rng _).1 (j_rng _).2 (fun V360 G360 hW hx360 hA360 hp360 ho360 => ?_)
    obtain ⟨hN360, hv360⟩ := WT_rngI (r := ((-2147483648), 2147483647)) hW id rfl hA360
    clear hN360
    have he := he.trans (hx360.sub (jsub_of rfl))
    have hkp := hkp.trans (jkc.of hx360 (jnot_of rfl))
    refine J_iload dX7_counts_361 rfl ?_
    refine Jz_iconst 1 dX7_counts_363 (by decide) (fun y363 he363 => ?_)
    refine Jz_iadd jEq.rf he363 dX7_counts_364 (by omega) (by omega) (fun y364 he364 => ?_)
    refine J_iload_n dX7_counts_365 rfl ?_
    refine Jz_icmp_ne (tgt := 459) he364 jEq.rf dX7_counts_366 (by decide) (fun c366 => ?_) (fun c366 => ?_)
    · have hbq459_a0 : jis V360 (.inr 5) a0 := ((((hbq276_a0.mono hx286.1).mono hx297.1).mono hx308.1).mono hx360.1)
      have hbq459_rw : jis V360 (.inl 17) rw := ((((hbq276_rw.mono hx286.1).mono hx297.1).mono hx308.1).mono hx360.1)
      have hbq459_px : jis V360 (.inl 18) px := ((((hbq276_px.mono hx286.1).mono hx297.1).mono hx308.1).mono hx360.1)
      have hbq459_py : jis V360 (.inl 19) py := ((((hbq276_py.mono hx286.1).mono hx297.1).mono hx308.1).mono hx360.1)
      have hbq459_pz : jis V360 (.inl 20) pz := ((((hbq276_pz.mono hx286.1).mono hx297.1).mono hx308.1).mono hx360.1)
      have hbq459_kn : jis V360 (.inl 40) kn := ((((hbq276_kn.mono hx286.1).mono hx297.1).mono hx308.1).mono hx360.1)
      have hbq459_co : jis V360 (.inl 23) co := ((((hbq276_co.mono hx286.1).mono hx297.1).mono hx308.1).mono hx360.1)
      have hbq459_sq : jis V360 (.inl 46) sq := ((((hbq276_sq.mono hx286.1).mono hx297.1).mono hx308.1).mono hx360.1)
      have hbq459_rg : jis V360 (.inl 24) rg := ((((hbq276_rg.mono hx286.1).mono hx297.1).mono hx308.1).mono hx360.1)
      have hbq459_bg : jis V360 (.inl 25) bg := ((((hbq276_bg.mono hx286.1).mono hx297.1).mono hx308.1).mono hx360.1)
      have hbq459_se : jis V360 (.inl 41) se := ((((hbq276_se.mono hx286.1).mono hx297.1).mono hx308.1).mono hx360.1)
      have hbq459_hx : jis V360 (.inl 26) hx := ((((hbq276_hx.mono hx286.1).mono hx297.1).mono hx308.1).mono hx360.1)
      have hOq459_a0 : V360 a0 = some (.inr (5, gs92a0)) := (hx360.2 _ _ (hx308.2 _ _ (hx297.2 _ _ (hx286.2 _ _ hOq276_a0 (jnot_of rfl)) (jnot_of rfl)) (jnot_of rfl)) (jnot_of rfl))
      have hKq459_a0 : jokO V360 (jFs 5) gs92a0 := ((((hKq276_a0.mono hx286.1).mono hx297.1).mono hx308.1).mono hx360.1)
      have haq459_co := (hx360.2 _ _ (hx308.2 _ _ (hx297.2 _ _ (hx286.2 _ _ haq276_co (jnot_of rfl)) (jnot_of rfl)) (jnot_of rfl)) (jnot_of rfl))
      have haq459_sq := (hx360.2 _ _ (hx308.2 _ _ (hx297.2 _ _ (hx286.2 _ _ haq276_sq (jnot_of rfl)) (jnot_of rfl)) (jnot_of rfl)) (jnot_of rfl))
      have haq459_rg := (hx360.2 _ _ (hx308.2 _ _ (hx297.2 _ _ (hx286.2 _ _ haq276_rg (jnot_of rfl)) (jnot_of rfl)) (jnot_of rfl)) (jnot_of rfl))
      have haq459_bg := (hx360.2 _ _ (hx308.2 _ _ (hx297.2 _ _ (hx286.2 _ _ haq276_bg (jnot_of rfl)) (jnot_of rfl)) (jnot_of rfl)) (jnot_of rfl))
      have haq459_se := (hx360.2 _ _ (hx308.2 _ _ (hx297.2 _ _ (hx286.2 _ _ haq276_se (jnot_of rfl)) (jnot_of rfl)) (jnot_of rfl)) (jnot_of rfl))
      have haq459_kn := (hx360.2 _ _ (hx308.2 _ _ (hx297.2 _ _ (hx286.2 _ _ haq276_kn (jnot_of rfl)) (jnot_of rfl)) (jnot_of rfl)) (jnot_of rfl))
      have haq459_rw := (hx360.2 _ _ (hx308.2 _ _ (hx297.2 _ _ (hx286.2 _ _ hA111 (jnot_of rfl)) (jnot_of rfl)) (jnot_of rfl)) (jnot_of rfl))
      have haq459_px := (hx360.2 _ _ (hx308.2 _ _ (hx297.2 _ _ hA286 (jnot_of rfl)) (jnot_of rfl)) (jnot_of rfl))
      have haq459_py := (hx360.2 _ _ (hx308.2 _ _ hA297 (jnot_of rfl)) (jnot_of rfl))
      have haq459_pz := (hx360.2 _ _ hA308 (jnot_of rfl))
      exact w_X7_counts_z_s459 d V0 a0 x1 x2 rw px py pz kn co sq rg bg se hx RW PX PY PZ KN CO SQ RG BG SE HX Q N i4n92 i5n92 gs92a0 F17n92 F18n92 F19n92 F20n92 F23n92 F46n92 F24n92 F25n92 F41n92 F26n92 y5 y251 y168 y184 y215 y231 y108 y110 y177 y193 y224 t0k360 V360 G23 G111 G286 G297 G308 G360 hQ hm hall hrow hpl hnd hse hhx hco ho5 ih92 hd hp0 hp1 hp2 hp3 hp4 hp5 hW he hkp hbq459_a0 hbq459_rw hbq459_px hbq459_py hbq459_pz hbq459_kn hbq459_co hbq459_sq hbq459_rg hbq459_bg hbq459_se hbq459_hx hOq459_a0 hKq459_a0 hFgs92a0_4 hFgs92a0_6 hFgs92a0_7 hFgs92a0_8 hFgs92a0_11 hFgs92a0_12 hFgs92a0_13 hFgs92a0_14 hFgs92a0_15 hFgs92a0_16 hFgs92a0_17 haq459_co haq459_sq haq459_rg haq459_bg haq459_se haq459_kn haq459_rw haq459_px haq459_py haq459_pz hA360 he5 he251 he168 he184 he215 he231 he110 hjb hdx hd19 hremQ c94 c98 hb108 e108 hp111 ho111 c123 hq0 e177 e193 e224 hbnd hbsx hbsy hbsz c258 hPJ hnbN hbxN hsb hnin hPk hPN hk360_0 hp360 ho360 c366
    · have hbq369_a0 : jis V360 (.inr 5) a0 := ((((hbq276_a0.mono hx286.1).mono hx297.1).mono hx308.1).mono hx360.1)
      have hbq369_rw : jis V360 (.inl 17) rw := ((((hbq276_rw.mono hx286.1).mono hx297.1).mono hx308.1).mono hx360.1)
      have hbq369_px : jis V360 (.inl 18) px := ((((hbq276_px.mono hx286.1).mono hx297.1).mono hx308.1).mono hx360.1)
      have hbq369_py : jis V360 (.inl 19) py := ((((hbq276_py.mono hx286.1).mono hx297.1).mono hx308.1).mono hx360.1)
      have hbq369_pz : jis V360 (.inl 20) pz := ((((hbq276_pz.mono hx286.1).mono hx297.1).mono hx308.1).mono hx360.1)
      have hbq369_kn : jis V360 (.inl 40) kn := ((((hbq276_kn.mono hx286.1).mono hx297.1).mono hx308.1).mono hx360.1)
      have hbq369_co : jis V360 (.inl 23) co := ((((hbq276_co.mono hx286.1).mono hx297.1).mono hx308.1).mono hx360.1)
      have hbq369_sq : jis V360 (.inl 46) sq := ((((hbq276_sq.mono hx286.1).mono hx297.1).mono hx308.1).mono hx360.1)
      have hbq369_rg : jis V360 (.inl 24) rg := ((((hbq276_rg.mono hx286.1).mono hx297.1).mono hx308.1).mono hx360.1)
      have hbq369_bg : jis V360 (.inl 25) bg := ((((hbq276_bg.mono hx286.1).mono hx297.1).mono hx308.1).mono hx360.1)
      have hbq369_se : jis V360 (.inl 41) se := ((((hbq276_se.mono hx286.1).mono hx297.1).mono hx308.1).mono hx360.1)
      have hbq369_hx : jis V360 (.inl 26) hx := ((((hbq276_hx.mono hx286.1).mono hx297.1).mono hx308.1).mono hx360.1)
      have hOq369_a0 : V360 a0 = some (.inr (5, gs92a0)) := (hx360.2 _ _ (hx308.2 _ _ (hx297.2 _ _ (hx286.2 _ _ hOq276_a0 (jnot_of rfl)) (jnot_of rfl)) (jnot_of rfl)) (jnot_of rfl))
      have hKq369_a0 : jokO V360 (jFs 5) gs92a0 := ((((hKq276_a0.mono hx286.1).mono hx297.1).mono hx308.1).mono hx360.1)
      have haq369_co := (hx360.2 _ _ (hx308.2 _ _ (hx297.2 _ _ (hx286.2 _ _ haq276_co (jnot_of rfl)) (jnot_of rfl)) (jnot_of rfl)) (jnot_of rfl))
      have haq369_sq := (hx360.2 _ _ (hx308.2 _ _ (hx297.2 _ _ (hx286.2 _ _ haq276_sq (jnot_of rfl)) (jnot_of rfl)) (jnot_of rfl)) (jnot_of rfl))
      have haq369_rg := (hx360.2 _ _ (hx308.2 _ _ (hx297.2 _ _ (hx286.2 _ _ haq276_rg (jnot_of rfl)) (jnot_of rfl)) (jnot_of rfl)) (jnot_of rfl))
      have haq369_bg := (hx360.2 _ _ (hx308.2 _ _ (hx297.2 _ _ (hx286.2 _ _ haq276_bg (jnot_of rfl)) (jnot_of rfl)) (jnot_of rfl)) (jnot_of rfl))
      have haq369_se := (hx360.2 _ _ (hx308.2 _ _ (hx297.2 _ _ (hx286.2 _ _ haq276_se (jnot_of rfl)) (jnot_of rfl)) (jnot_of rfl)) (jnot_of rfl))
      have haq369_kn := (hx360.2 _ _ (hx308.2 _ _ (hx297.2 _ _ (hx286.2 _ _ haq276_kn (jnot_of rfl)) (jnot_of rfl)) (jnot_of rfl)) (jnot_of rfl))
      have haq369_rw := (hx360.2 _ _ (hx308.2 _ _ (hx297.2 _ _ (hx286.2 _ _ hA111 (jnot_of rfl)) (jnot_of rfl)) (jnot_of rfl)) (jnot_of rfl))
      have haq369_px := (hx360.2 _ _ (hx308.2 _ _ (hx297.2 _ _ hA286 (jnot_of rfl)) (jnot_of rfl)) (jnot_of rfl))
      have haq369_py := (hx360.2 _ _ (hx308.2 _ _ hA297 (jnot_of rfl)) (jnot_of rfl))
      have haq369_pz := (hx360.2 _ _ hA308 (jnot_of rfl))
      exact w_X7_counts_z_s369 d V0 a0 x1 x2 rw px py pz kn co sq rg bg se hx RW PX PY PZ KN CO SQ RG BG SE HX Q N i4n92 i5n92 gs92a0 F17n92 F18n92 F19n92 F20n92 F23n92 F46n92 F24n92 F25n92 F41n92 F26n92 y5 y251 y168 y184 y215 y231 y108 y110 y177 y193 y224 t0k360 V360 G23 G111 G286 G297 G308 G360 hQ hm hall hrow hpl hnd hse hhx hco ho5 ih92 hd hp0 hp1 hp2 hp3 hp4 hp5 hW he hkp hbq369_a0 hbq369_rw hbq369_px hbq369_py hbq369_pz hbq369_kn hbq369_co hbq369_sq hbq369_rg hbq369_bg hbq369_se hbq369_hx hOq369_a0 hKq369_a0 hFgs92a0_4 hFgs92a0_6 hFgs92a0_7 hFgs92a0_8 hFgs92a0_11 hFgs92a0_12 hFgs92a0_13 hFgs92a0_14 hFgs92a0_15 hFgs92a0_16 hFgs92a0_17 haq369_co haq369_sq haq369_rg haq369_bg haq369_se haq369_kn haq369_rw haq369_px haq369_py haq369_pz hA360 he5 he251 he168 he184 he215 he231 he110 hjb hdx hd19 hremQ c94 c98 hb108 e108 hp111 ho111 c123 hq0 e177 e193 e224 hbnd hbsx hbsy hbsz c258 hPJ hnbN hbxN hsb hnin hPk hPN hk360_0 hp360 ho360 c366
  refine Jz_if_le (tgt := 332) he184 dX7_counts_319 (by decide) (fun c319 => ?_) (fun c319 => ?_)
  · refine Jz_iconst (-1) dX7_counts_332 (by decide) (fun y332 he332 => ?_)
    refine J_goto (tgt := 360) dX7_counts_333 (by decide) ?_
    exact K360  y332  (by rw [htp.eq]; simp only [he332.eq]; (repeat' split) <;> omega)
  · refine J_aload_n dX7_counts_322 rfl ?_
    refine J_get jf_X7_58 dX7_counts_323 (hx308.2 _ _ (hx297.2 _ _ (hx286.2 _ _ hOq276_a0 (jnot_of rfl)) (jnot_of rfl)) (jnot_of rfl)) hFgs92a0_17 ?_
    refine J_iload dX7_counts_326 rfl ?_
    refine Jz_iald (r := ((-2147483648), 2147483647)) jEq.rf dX7_counts_328 (hx308.2 _ _ (hx297.2 _ _ (hx286.2 _ _ haq276_hx (jnot_of rfl)) (jnot_of rfl)) (jnot_of rfl)) rfl hv276_hx (by omega) (by omega) (fun y328 hf328 hl328 hh328 => ?_)
    dsimp only at hl328 hh328
    clear hl328 hh328
    have e328 : jtp (jpl3 (jPf F18n92 F19n92 F20n92) i5n92.toInt.toNat) = y328.toInt := by rw [← hhx i5n92.toInt.toNat (by omega), hf328]
    refine Jz_if_ge (tgt := 336) jEq.rf dX7_counts_329 (by decide) (fun c329 => ?_) (fun c329 => ?_)
    · refine J_iload dX7_counts_336 rfl ?_
      refine J_aload_n dX7_counts_338 rfl ?_
      refine J_get jf_X7_58 dX7_counts_339 (hx308.2 _ _ (hx297.2 _ _ (hx286.2 _ _ hOq276_a0 (jnot_of rfl)) (jnot_of rfl)) (jnot_of rfl)) hFgs92a0_17 ?_
      refine J_iload dX7_counts_342 rfl ?_
      refine Jz_iald (r := ((-2147483648), 2147483647)) jEq.rf dX7_counts_344 (hx308.2 _ _ (hx297.2 _ _ (hx286.2 _ _ haq276_hx (jnot_of rfl)) (jnot_of rfl)) (jnot_of rfl)) rfl hv276_hx (by omega) (by omega) (fun y344 hf344 hl344 hh344 => ?_)
      dsimp only at hl344 hh344
      clear hl344 hh344
      have he344 : jEq y344.toInt (y328.toInt) := by rw [← hf344, hf328]; exact jEq.rf
      have e344 : jtp (jpl3 (jPf F18n92 F19n92 F20n92) i5n92.toInt.toNat) = y344.toInt := by rw [← hhx i5n92.toInt.toNat (by omega), hf344]
      refine Jz_icmp_le (tgt := 353) he184 he344 dX7_counts_345 (by decide) (fun c345 => ?_) (fun c345 => ?_)
      · refine J_aload_n dX7_counts_353 rfl ?_
        refine J_get jf_X7_58 dX7_counts_354 (hx308.2 _ _ (hx297.2 _ _ (hx286.2 _ _ hOq276_a0 (jnot_of rfl)) (jnot_of rfl)) (jnot_of rfl)) hFgs92a0_17 ?_
        refine J_iload dX7_counts_357 rfl ?_
        refine Jz_iald (r := ((-2147483648), 2147483647)) jEq.rf dX7_counts_359 (hx308.2 _ _ (hx297.2 _ _ (hx286.2 _ _ haq276_hx (jnot_of rfl)) (jnot_of rfl)) (jnot_of rfl)) rfl hv276_hx (by omega) (by omega) (fun y359 hf359 hl359 hh359 => ?_)
        dsimp only at hl359 hh359
        clear hl359 hh359
        have he359 : jEq y359.toInt (y328.toInt) := by rw [← hf359, hf328]; exact jEq.rf
        have e359 : jtp (jpl3 (jPf F18n92 F19n92 F20n92) i5n92.toInt.toNat) = y359.toInt := by rw [← hhx i5n92.toInt.toNat (by omega), hf359]
        exact K360  y359  (by rw [htp.eq]; simp only [he359.eq]; (repeat' split) <;> omega)
      · refine J_iload dX7_counts_348 rfl ?_
        refine J_goto (tgt := 360) dX7_counts_350 (by decide) ?_
        exact K360  y184  (by rw [htp.eq]; simp only [he184.eq]; (repeat' split) <;> omega)
    · refine Jz_iconst (-1) dX7_counts_332 (by decide) (fun y332 he332 => ?_)
      refine J_goto (tgt := 360) dX7_counts_333 (by decide) ?_
      exact K360  y332  (by rw [htp.eq]; simp only [he332.eq]; (repeat' split) <;> omega)
