set_option maxRecDepth 100000 in
set_option maxHeartbeats 8000000 in
theorem w_X7_counts_z_s369 {tS : jTS} (d : Nat) (V0 : jH) (a0 : Nat) (x1 : Int32) (x2 : Int32) (rw : Nat) (px : Nat) (py : Nat) (pz : Nat) (kn : Nat) (co : Nat) (sq : Nat) (rg : Nat) (bg : Nat) (se : Nat) (hx : Nat) (RW : Nat → Int32) (PX : Nat → Int32) (PY : Nat → Int32) (PZ : Nat → Int32) (KN : Nat → Int32) (CO : Nat → Int32) (SQ : Nat → Int64) (RG : Nat → Int32) (BG : Nat → Int32) (SE : Nat → Int32) (HX : Nat → Int32) (Q : Option Value → jH → Prop) (N : Nat) (i4n92 : Int32) (i5n92 : Int32) (gs92a0 : List Value) (F17n92 : Nat → Int32) (F18n92 : Nat → Int32) (F19n92 : Nat → Int32) (F20n92 : Nat → Int32) (F23n92 : Nat → Int32) (F46n92 : Nat → Int64) (F24n92 : Nat → Int32) (F25n92 : Nat → Int32) (F41n92 : Nat → Int32) (F26n92 : Nat → Int32) (y5 : Int32) (y251 : Int32) (y168 : Int32) (y184 : Int32) (y215 : Int32) (y231 : Int32) (y108 : Int32) (y110 : Int32) (y177 : Int32) (y193 : Int32) (y224 : Int32) (t0k360 : Int32) (V360 : jH) (G23 : Nat → Int32) (G111 : Nat → Int32) (G286 : Nat → Int32) (G297 : Nat → Int32) (G308 : Nat → Int32) (G360 : Nat → Int32) (hQ : ∀ (r : Option Value) (V : jH), (fun r V => (jPost [.inr 5, .inl 40, .inl 23, .inl 17, .inl 18, .inl 19, .inl 20, .inl 41, .inl 26, .inl 46, .inl 24, .inl 25] V0 rV) r V ∧ (∃ (KN2 CO2 : Nat → Int32) (SQ2 : Nat → Int64) (RG2 BG2 SE2 : Nat → Int32), V kn = some (.inl (40, 84, .inl KN2)) ∧ V co = some (.inl (23, 84, .inl CO2)) ∧ V sq = some (.inl (46, 84, .inr (.inl SQ2))) ∧ V rg = some (.inl (24, 84, .inl RG2)) ∧ V bg = some (.inl (25, 84, .inl BG2)) ∧ V se = some (.inl (41, 79507, .inl SE2)) ∧ jsn SE2 [] ∧ (KN2 (21 * x1.toInt + x2.toInt).toNat).toInt = 1 ∧ jmk x1.toInt x2.toInt.toNat CO2 SQ2 RG2 BG2 (21 * x1.toInt + x2.toInt).toNat ∧ (∀ j : Nat, j ≠ (21 * x1.toInt + x2.toInt).toNat → KN2 j = KN j) ∧ jot CO2 SQ2 RG2 BG2 CO SQ RG BG (21 * x1.toInt + x2.toInt).toNat) ∧ jkc 5 [0, 23, 24] V0 V) r V → Q r V) (hm : ((600001 - i4n92.toInt) * 1000 + (i5n92.toInt + 1) * 10 + (7 - (F17n92 i5n92.toInt.toNat).toInt)).toNat < N + 1) (hall : 0 ≤ i4n92.toInt ∧ i4n92.toInt ≤ 600000) (hrow : ∀ k : Nat, (k : Int) ≤ i5n92.toInt → -1 ≤ (F17n92 k).toInt ∧ (F17n92 k).toInt < jdir x1.toInt) (hpl : ∀ k : Nat, (k : Int) ≤ i5n92.toInt → jnb x1.toInt k (jPf F18n92 F19n92 F20n92 k)) (hnd : ∀ i k : Nat, i < k → (k : Int) ≤ i5n92.toInt → ¬ jPf F18n92 F19n92 F20n92 k = jPf F18n92 F19n92 F20n92 i) (hse : jsn F41n92 (jplb (jPf F18n92 F19n92 F20n92) (i5n92.toInt + 1).toNat)) (hhx : ∀ k : Nat, (k : Int) ≤ i5n92.toInt → (F26n92 k).toInt = jtp (jpl3 (jPf F18n92 F19n92 F20n92) k)) (hco : 0 ≤ (F23n92 (21 * x1.toInt + x2.toInt).toNat).toInt ∧ (F23n92 (21 * x1.toInt + x2.toInt).toNat).toInt ≤ i4n92.toInt + 1) (ho5 : jot F23n92 F46n92 F24n92 F25n92 CO SQ RG BG (21 * x1.toInt + x2.toInt).toNat) (ih92 : ∀ (V : jH) (i4n92 : Int32) (i5n92 : Int32) (gs92a0 : List Value) (F17n92 : Nat → Int32) (F18n92 : Nat → Int32) (F19n92 : Nat → Int32) (F20n92 : Nat → Int32) (F23n92 : Nat → Int32) (F46n92 : Nat → Int64) (F24n92 : Nat → Int32) (F25n92 : Nat → Int32) (F41n92 : Nat → Int32) (F26n92 : Nat → Int32), WT V → jeff [.inr 5, .inl 40, .inl 23, .inl 17, .inl 18, .inl 19, .inl 20, .inl 41, .inl 26, .inl 46, .inl 24, .inl 25] V0 V → (jis V (.inr 5) a0) → (jis V (.inl 17) rw) → (jis V (.inl 18) px) → (jis V (.inl 19) py) → (jis V (.inl 20) pz) → (jis V (.inl 40) kn) → (jis V (.inl 23) co) → (jis V (.inl 46) sq) → (jis V (.inl 24) rg) → (jis V (.inl 25) bg) → (jis V (.inl 41) se) → (jis V (.inl 26) hx) → (jkc 5 [0, 23, 24] V0 V) → (V a0 = some (.inr (5, gs92a0))) → (gs92a0[4]? = some (.ref rw)) → (gs92a0[6]? = some (.ref px)) → (gs92a0[7]? = some (.ref py)) → (gs92a0[8]? = some (.ref pz)) → (gs92a0[11]? = some (.ref kn)) → (gs92a0[12]? = some (.ref co)) → (gs92a0[13]? = some (.ref sq)) → (gs92a0[14]? = some (.ref rg)) → (gs92a0[15]? = some (.ref bg)) → (gs92a0[16]? = some (.ref se)) → (gs92a0[17]? = some (.ref hx)) → (V rw = some (.inl (17, 120, .inl F17n92))) → (V px = some (.inl (18, 121, .inl F18n92))) → (V py = some (.inl (19, 121, .inl F19n92))) → (V pz = some (.inl (20, 121, .inl F20n92))) → (V co = some (.inl (23, 84, .inl F23n92))) → (V sq = some (.inl (46, 84, .inr (.inl F46n92)))) → (V rg = some (.inl (24, 84, .inl F24n92))) → (V bg = some (.inl (25, 84, .inl F25n92))) → (V se = some (.inl (41, 79507, .inl F41n92))) → (V hx = some (.inl (26, 22, .inl F26n92))) → (V kn = some (.inl (40, 84, .inl G23))) → (-1 ≤ i5n92.toInt ∧ i5n92.toInt ≤ 19 ∧ (i5n92.toInt < x2.toInt ∨ x2.toInt = 0)) → (0 ≤ i4n92.toInt ∧ i4n92.toInt ≤ 600000) → (∀ k : Nat, (k : Int) ≤ i5n92.toInt → -1 ≤ (F17n92 k).toInt ∧ (F17n92 k).toInt < jdir x1.toInt) → (∀ k : Nat, (k : Int) ≤ i5n92.toInt → jnb x1.toInt k (jPf F18n92 F19n92 F20n92 k)) → (∀ i k : Nat, i < k → (k : Int) ≤ i5n92.toInt → ¬ jPf F18n92 F19n92 F20n92 k = jPf F18n92 F19n92 F20n92 i) → (jsn F41n92 (jplb (jPf F18n92 F19n92 F20n92) (i5n92.toInt + 1).toNat)) → (∀ k : Nat, (k : Int) ≤ i5n92.toInt → (F26n92 k).toInt = jtp (jpl3 (jPf F18n92 F19n92 F20n92) k)) → (1 ≤ x2.toInt → jrS x1.toInt x2.toInt.toNat i5n92.toInt i4n92.toInt (jac F23n92 F46n92 F24n92 F25n92 (21 * x1.toInt + x2.toInt).toNat) F18n92 F19n92 F20n92 F17n92) → (0 ≤ (F23n92 (21 * x1.toInt + x2.toInt).toNat).toInt ∧ (F23n92 (21 * x1.toInt + x2.toInt).toNat).toInt ≤ i4n92.toInt + 1) → (x2.toInt = 0 → (F23n92 (21 * x1.toInt + x2.toInt).toNat).toInt = 1 ∧ F46n92 (21 * x1.toInt + x2.toInt).toNat = 0 ∧ F24n92 (21 * x1.toInt + x2.toInt).toNat = 0 ∧ F25n92 (21 * x1.toInt + x2.toInt).toNat = 0 ∧ i5n92.toInt = 0) → (jot F23n92 F46n92 F24n92 F25n92 CO SQ RG BG (21 * x1.toInt + x2.toInt).toNat) → ((600001 - i4n92.toInt) * 1000 + (i5n92.toInt + 1) * 10 + (7 - (F17n92 i5n92.toInt.toNat).toInt)).toNat < N → J tS mX7_counts d 92 [some (.ref a0), some (.int x1), some (.int x2), some (.int y5), some (.int i4n92), some (.int i5n92), none, none, none, none] [] V 0 0 Q) (hd : 2 ≤ d) (hp0 : 0 ≤ x1.toInt) (hp1 : x1.toInt ≤ 3) (hp2 : 0 ≤ x2.toInt) (hp3 : x2.toInt ≤ 20) (hp4 : jsn SE []) (hp5 : jmo x1.toInt x2.toInt.toNat KN CO SQ RG BG (21 * x1.toInt + x2.toInt).toNat) (hW : WT V360) (he : jeff [.inr 5, .inl 40, .inl 23, .inl 17, .inl 18, .inl 19, .inl 20, .inl 41, .inl 26, .inl 46, .inl 24, .inl 25] V0 V360) (hkp : jkc 5 [0, 23, 24] V0 V360) (hbq369_a0 : jis V360 (.inr 5) a0) (hbq369_rw : jis V360 (.inl 17) rw) (hbq369_px : jis V360 (.inl 18) px) (hbq369_py : jis V360 (.inl 19) py) (hbq369_pz : jis V360 (.inl 20) pz) (hbq369_kn : jis V360 (.inl 40) kn) (hbq369_co : jis V360 (.inl 23) co) (hbq369_sq : jis V360 (.inl 46) sq) (hbq369_rg : jis V360 (.inl 24) rg) (hbq369_bg : jis V360 (.inl 25) bg) (hbq369_se : jis V360 (.inl 41) se) (hbq369_hx : jis V360 (.inl 26) hx) (hOq369_a0 : V360 a0 = some (.inr (5, gs92a0))) (hKq369_a0 : jokO V360 (jFs 5) gs92a0) (hFgs92a0_4 : gs92a0[4]? = some (.ref rw)) (hFgs92a0_6 : gs92a0[6]? = some (.ref px)) (hFgs92a0_7 : gs92a0[7]? = some (.ref py)) (hFgs92a0_8 : gs92a0[8]? = some (.ref pz)) (hFgs92a0_11 : gs92a0[11]? = some (.ref kn)) (hFgs92a0_12 : gs92a0[12]? = some (.ref co)) (hFgs92a0_13 : gs92a0[13]? = some (.ref sq)) (hFgs92a0_14 : gs92a0[14]? = some (.ref rg)) (hFgs92a0_15 : gs92a0[15]? = some (.ref bg)) (hFgs92a0_16 : gs92a0[16]? = some (.ref se)) (hFgs92a0_17 : gs92a0[17]? = some (.ref hx)) (haq369_co : V360 co = some (.inl (23, 84, .inl F23n92))) (haq369_sq : V360 sq = some (.inl (46, 84, .inr (.inl F46n92)))) (haq369_rg : V360 rg = some (.inl (24, 84, .inl F24n92))) (haq369_bg : V360 bg = some (.inl (25, 84, .inl F25n92))) (haq369_se : V360 se = some (.inl (41, 79507, .inl F41n92))) (haq369_kn : V360 kn = some (.inl (40, 84, .inl G23))) (haq369_rw : V360 rw = some (.inl (17, 120, .inl G111))) (haq369_px : V360 px = some (.inl (18, 121, .inl G286))) (haq369_py : V360 py = some (.inl (19, 121, .inl G297))) (haq369_pz : V360 pz = some (.inl (20, 121, .inl G308))) (hA360 : V360 hx = some (.inl (26, 22, .inl G360))) (he5 : jEq y5.toInt ((21) * (x1.toInt) + x2.toInt)) (he251 : jEq y251.toInt (i4n92.toInt + 1)) (he168 : jEq y168.toInt (y108.toInt + 1)) (he184 : jEq y184.toInt (y177.toInt + (jsx (x1.toInt) (y108.toInt + 1)))) (he215 : jEq y215.toInt (y193.toInt + (jsy (x1.toInt) (y108.toInt + 1) (y177.toInt + y193.toInt)))) (he231 : jEq y231.toInt (y224.toInt + (jsz (x1.toInt) (y108.toInt + 1)))) (he110 : jEq y110.toInt (y108.toInt + 1)) (hjb : 3 ≤ jdir x1.toInt ∧ jdir x1.toInt ≤ 6) (hdx : i5n92.toInt < x2.toInt) (hd19 : i5n92.toInt ≤ 19) (hremQ : jrS x1.toInt x2.toInt.toNat i5n92.toInt i4n92.toInt (jac F23n92 F46n92 F24n92 F25n92 (21 * x1.toInt + x2.toInt).toNat) F18n92 F19n92 F20n92 F17n92) (c94 : ¬ i5n92.toInt < 0) (c98 : ¬ x2.toInt ≤ 0) (hb108 : -1 ≤ y108.toInt ∧ y108.toInt < jdir x1.toInt) (e108 : (F17n92 i5n92.toInt.toNat).toInt = y108.toInt) (hp111 : G111 i5n92.toInt.toNat = y110) (ho111 : ∀ k : Nat, k ≠ i5n92.toInt.toNat → G111 k = F17n92 k) (c123 : ¬ y108.toInt + 1 = jdir x1.toInt) (hq0 : jnb x1.toInt i5n92.toInt.toNat ((jPf F18n92 F19n92 F20n92) i5n92.toInt.toNat)) (e177 : (F18n92 i5n92.toInt.toNat).toInt = y177.toInt) (e193 : (F19n92 i5n92.toInt.toNat).toInt = y193.toInt) (e224 : (F20n92 i5n92.toInt.toNat).toInt = y224.toInt) (hbnd : (-i5n92.toInt ≤ y177.toInt ∧ y177.toInt ≤ i5n92.toInt) ∧ (-i5n92.toInt ≤ y193.toInt ∧ y193.toInt ≤ i5n92.toInt) ∧ (-i5n92.toInt ≤ y224.toInt ∧ y224.toInt ≤ i5n92.toInt)) (hbsx : -1 ≤ jsx x1.toInt (y108.toInt + 1) ∧ jsx x1.toInt (y108.toInt + 1) ≤ 1) (hbsy : -1 ≤ jsy x1.toInt (y108.toInt + 1) (y177.toInt + y193.toInt) ∧ jsy x1.toInt (y108.toInt + 1) (y177.toInt + y193.toInt) ≤ 1) (hbsz : -1 ≤ jsz x1.toInt (y108.toInt + 1) ∧ jsz x1.toInt (y108.toInt + 1) ≤ 1) (c258 : i4n92.toInt + 1 ≤ 600000) (hPJ : jnx x1.toInt (y108.toInt + 1) ((jPf F18n92 F19n92 F20n92) i5n92.toInt.toNat) = ((y177.toInt + jsx x1.toInt (y108.toInt + 1)), (y193.toInt + jsy x1.toInt (y108.toInt + 1) (y177.toInt + y193.toInt)), (y224.toInt + jsz x1.toInt (y108.toInt + 1)))) (hnbN : jnb x1.toInt (i5n92.toInt.toNat + 1) ((y177.toInt + jsx x1.toInt (y108.toInt + 1)), (y193.toInt + jsy x1.toInt (y108.toInt + 1) (y177.toInt + y193.toInt)), (y224.toInt + jsz x1.toInt (y108.toInt + 1)))) (hbxN : jbx ((y177.toInt + jsx x1.toInt (y108.toInt + 1)), (y193.toInt + jsy x1.toInt (y108.toInt + 1) (y177.toInt + y193.toInt)), (y224.toInt + jsz x1.toInt (y108.toInt + 1)))) (hsb : 0 ≤ jspot ((y177.toInt + jsx x1.toInt (y108.toInt + 1)), (y193.toInt + jsy x1.toInt (y108.toInt + 1) (y177.toInt + y193.toInt)), (y224.toInt + jsz x1.toInt (y108.toInt + 1))) ∧ jspot ((y177.toInt + jsx x1.toInt (y108.toInt + 1)), (y193.toInt + jsy x1.toInt (y108.toInt + 1) (y177.toInt + y193.toInt)), (y224.toInt + jsz x1.toInt (y108.toInt + 1))) ≤ 79506) (hnin : ¬ ((y177.toInt + jsx x1.toInt (y108.toInt + 1)), (y193.toInt + jsy x1.toInt (y108.toInt + 1) (y177.toInt + y193.toInt)), (y224.toInt + jsz x1.toInt (y108.toInt + 1))) ∈ (jpl3 (jPf F18n92 F19n92 F20n92) i5n92.toInt.toNat)) (hPk : ∀ k : Nat, k ≤ i5n92.toInt.toNat → (jPf F18n92 F19n92 F20n92) k = jPf G286 G297 G308 k) (hPN : jPf G286 G297 G308 (i5n92.toInt.toNat + 1) = ((y177.toInt + jsx x1.toInt (y108.toInt + 1)), (y193.toInt + jsy x1.toInt (y108.toInt + 1) (y177.toInt + y193.toInt)), (y224.toInt + jsz x1.toInt (y108.toInt + 1)))) (hk360_0 : t0k360.toInt = jtp (((y177.toInt + jsx x1.toInt (y108.toInt + 1)), (y193.toInt + jsy x1.toInt (y108.toInt + 1) (y177.toInt + y193.toInt)), (y224.toInt + jsz x1.toInt (y108.toInt + 1))) :: (jpl3 (jPf F18n92 F19n92 F20n92) i5n92.toInt.toNat))) (hp360 : G360 (i5n92.toInt + 1).toNat = t0k360) (ho360 : ∀ k : Nat, k ≠ (i5n92.toInt + 1).toNat → G360 k = F26n92 k) (c366 : i5n92.toInt + 1 = x2.toInt) : J tS mX7_counts d 369 [some (.ref a0), some (.int x1), some (.int x2), some (.int y5), some (.int y251), some (.int i5n92), some (.int y168), some (.int y184), some (.int y215), some (.int y231)] [] V360 0 0 Q := by
  obtain ⟨hN9, hv369_co⟩ := WT_rngI (r := ((-2147483648), 2147483647)) hW id rfl haq369_co
  clear hN9
  obtain ⟨hN9, hv369_rg⟩ := WT_rngI (r := ((-2147483648), 2147483647)) hW id rfl haq369_rg
  clear hN9
  obtain ⟨hN9, hv369_bg⟩ := WT_rngI (r := ((-2147483648), 2147483647)) hW id rfl haq369_bg
  clear hN9
  obtain ⟨hN9, hv369_se⟩ := WT_rngI (r := (0, 1)) hW id rfl haq369_se
  clear hN9
  obtain ⟨hN9, hv369_kn⟩ := WT_rngI (r := (0, 1)) hW id rfl haq369_kn
  clear hN9
  obtain ⟨hN9, hv369_rw⟩ := WT_rngI (r := ((-2147483648), 2147483647)) hW id rfl haq369_rw
  clear hN9
  obtain ⟨hN9, hv369_px⟩ := WT_rngI (r := ((-2147483648), 2147483647)) hW id rfl haq369_px
  clear hN9
  obtain ⟨hN9, hv369_py⟩ := WT_rngI (r := ((-2147483648), 2147483647)) hW id rfl haq369_py
  clear hN9
  obtain ⟨hN9, hv369_pz⟩ := WT_rngI (r := ((-2147483648), 2147483647)) hW id rfl haq369_pz
  clear hN9
  obtain ⟨hN9, hv369_hx⟩ := WT_rngI (r := ((-2147483648), 2147483647)) hW id rfl hA360
  clear hN9
  refine J_aload_n dX7_counts_369 rfl ?_
  refine J_iload_n dX7_counts_370 rfl ?_
  refine Jz_putI hOq369_a0 hW id rfl jf_X7_109 jt_X7_5 jEq.rf dX7_counts_371 (by omega) (by omega) (fun _ _ => ⟨rfl, rfl⟩) (fun V371 fs371 hW hx371 hO371 hS371 hT371 hB371 => ?_)
  have hK371 : jokO _ (jFs 5) fs371 := hW _ _ id hO371
  have hF371_4 := (hT371 4 (by decide)).trans hFgs92a0_4
  have hF371_6 := (hT371 6 (by decide)).trans hFgs92a0_6
  have hF371_7 := (hT371 7 (by decide)).trans hFgs92a0_7
  have hF371_8 := (hT371 8 (by decide)).trans hFgs92a0_8
  have hF371_11 := (hT371 11 (by decide)).trans hFgs92a0_11
  have hF371_12 := (hT371 12 (by decide)).trans hFgs92a0_12
  have hF371_13 := (hT371 13 (by decide)).trans hFgs92a0_13
  have hF371_14 := (hT371 14 (by decide)).trans hFgs92a0_14
  have hF371_15 := (hT371 15 (by decide)).trans hFgs92a0_15
  have hF371_16 := (hT371 16 (by decide)).trans hFgs92a0_16
  have hF371_17 := (hT371 17 (by decide)).trans hFgs92a0_17
  have he := he.trans (hx371.sub (jsub_of rfl))
  have hkp := hkp.trans (jkc.put hOq369_a0 hO371 hT371 hB371 (by decide))
  refine J_aload_n dX7_counts_374 rfl ?_
  refine J_get jf_X7_41 dX7_counts_375 hO371 hF371_12 ?_
  refine J_iload_n dX7_counts_378 rfl ?_
  refine J_dup2 dX7_counts_379 rfl rfl ?_
  refine Jz_iald (r := ((-2147483648), 2147483647)) he5 dX7_counts_380 (hx371.2 _ _ haq369_co (jnot_of rfl)) rfl hv369_co (by omega) (by omega) (fun y380 hf380 hl380 hh380 => ?_)
  dsimp only at hl380 hh380
  clear hl380 hh380
  have e380 : (F23n92 (21 * x1.toInt + x2.toInt).toNat).toInt = y380.toInt := by rw [hf380]
  refine Jz_iconst 1 dX7_counts_381 (by decide) (fun y381 he381 => ?_)
  refine Jz_iadd jEq.rf he381 dX7_counts_382 (by omega) (by omega) (fun y382 he382 => ?_)
  refine Jz_iast (r := ((-2147483648), 2147483647)) he5 he382 hW id dX7_counts_383 (hx371.2 _ _ haq369_co (jnot_of rfl)) rfl rfl (by omega) (by omega) (by omega) (by omega) (fun V383 G383 hW hx383 hA383 hp383 ho383 => ?_)
  obtain ⟨hN383, hv383⟩ := WT_rngI (r := ((-2147483648), 2147483647)) hW id rfl hA383
  clear hN383
  have he := he.trans (hx383.sub (jsub_of rfl))
  have hkp := hkp.trans (jkc.of hx383 (jnot_of rfl))
  refine J_aload_n dX7_counts_384 rfl ?_
  refine J_get jf_X7_44 dX7_counts_385 (hx383.2 _ _ hO371 (jnot_of rfl)) hF371_13 ?_
  refine J_iload_n dX7_counts_388 rfl ?_
  refine J_dup2 dX7_counts_389 rfl rfl ?_
  refine Jz_laldx he5 dX7_counts_390 (hx383.2 _ _ (hx371.2 _ _ haq369_sq (jnot_of rfl)) (jnot_of rfl)) rfl (by omega) (by omega) ?_
  refine J_iload_n dX7_counts_391 rfl ?_
  refine J_iload dX7_counts_392 rfl ?_
  refine J_iload dX7_counts_394 rfl ?_
  refine J_iload dX7_counts_396 rfl ?_
  refine J_callS4 moX7_square jw_ml_X7_152 jw_st_X7_square dX7_counts_398 (w_X7_square_z (d - 1) _ x1 y184 y215 y231 (by omega)   (by (try simp only [he184.eq, true_and, and_true]) <;> omega) (by (try simp only [he184.eq, true_and, and_true]) <;> omega) (by (try simp only [he215.eq, true_and, and_true]) <;> omega) (by (try simp only [he215.eq, true_and, and_true]) <;> omega) (by (try simp only [he231.eq, true_and, and_true]) <;> omega) (by (try simp only [he231.eq, true_and, and_true]) <;> omega)) (by omega) (Nat.zero_le _) (Nat.zero_le _) (Nat.le_of_ble_eq_true rfl) (fun r398 V398 h398 => ?_)
  obtain ⟨⟨y398, rfl, hl398, hh398, hP398_0⟩, hE398⟩ := h398
  have hE398 := hE398.symm
  subst hE398
  clear hl398 hh398
  try simp only [he184.eq, he215.eq, he231.eq] at hP398_0
  have hz398 : jEq y398.toInt (jsq (x1.toInt) (y177.toInt + (jsx (x1.toInt) (y108.toInt + 1))) (y193.toInt + (jsy (x1.toInt) (y108.toInt + 1) (y177.toInt + y193.toInt))) (y224.toInt + (jsz (x1.toInt) (y108.toInt + 1)))) := hP398_0
  clear hP398_0
  refine J_i2l dX7_counts_401 rfl ?_
  refine J_ladd dX7_counts_402 ?_
  refine Jz_lastB he5 hW id dX7_counts_403 (hx383.2 _ _ (hx371.2 _ _ haq369_sq (jnot_of rfl)) (jnot_of rfl)) rfl rfl (by omega) (by omega) (fun V403 G403 hW hx403 hA403 hp403 ho403 hB403 => ?_)
  have he := he.trans (hx403.sub (jsub_of rfl))
  have hkp := hkp.trans (jkc.of hx403 (jnot_of rfl))
  refine J_aload_n dX7_counts_404 rfl ?_
  refine J_get jf_X7_48 dX7_counts_405 (hx403.2 _ _ (hx383.2 _ _ hO371 (jnot_of rfl)) (jnot_of rfl)) hF371_14 ?_
  refine J_iload_n dX7_counts_408 rfl ?_
  refine J_dup2 dX7_counts_409 rfl rfl ?_
  refine Jz_iald (r := ((-2147483648), 2147483647)) he5 dX7_counts_410 (hx403.2 _ _ (hx383.2 _ _ (hx371.2 _ _ haq369_rg (jnot_of rfl)) (jnot_of rfl)) (jnot_of rfl)) rfl hv369_rg (by omega) (by omega) (fun y410 hf410 hl410 hh410 => ?_)
  dsimp only at hl410 hh410
  clear hl410 hh410
  refine J_aload_n dX7_counts_411 rfl ?_
  refine J_iload_n dX7_counts_412 rfl ?_
  have hN1 : x2.toInt.toNat = i5n92.toInt.toNat + 1 := by omega
  have hXN : (G286 x2.toInt.toNat).toInt = (y177.toInt + jsx x1.toInt (y108.toInt + 1)) := by rw [hN1]; exact congrArg (fun p : jP3 => p.1) hPN
  have hYN : (G297 x2.toInt.toNat).toInt = (y193.toInt + jsy x1.toInt (y108.toInt + 1) (y177.toInt + y193.toInt)) := by rw [hN1]; exact congrArg (fun p : jP3 => p.2.1) hPN
  have hZN : (G308 x2.toInt.toNat).toInt = (y224.toInt + jsz x1.toInt (y108.toInt + 1)) := by rw [hN1]; exact congrArg (fun p : jP3 => p.2.2) hPN
  have hz9 := hnbN.2.2.2
  dsimp only at hz9
  refine Jw_callV1 (q9 := (RX7, TX7, 34)) moX7_isRing jw_ml_X7_156 jw_im_X7_isRing jw_se_X7_isRing (((hbq369_a0.mono hx371.1).mono hx383.1).mono hx403.1) rfl rfl dX7_counts_413 (w_X7_isRing_z (d - 1) _ a0 x1 x2 px py pz G286 G297 G308 (by omega) hW  (((hbq369_a0.mono hx371.1).mono hx383.1).mono hx403.1) ⟨_, (hx403.2 _ _ (hx383.2 _ _ hO371 (jnot_of rfl)) (jnot_of rfl)), hS371⟩ ⟨_, (hx403.2 _ _ (hx383.2 _ _ hO371 (jnot_of rfl)) (jnot_of rfl)), hF371_6⟩ ⟨_, (hx403.2 _ _ (hx383.2 _ _ hO371 (jnot_of rfl)) (jnot_of rfl)), hF371_7⟩ ⟨_, (hx403.2 _ _ (hx383.2 _ _ hO371 (jnot_of rfl)) (jnot_of rfl)), hF371_8⟩ (hx403.2 _ _ (hx383.2 _ _ (hx371.2 _ _ haq369_px (jnot_of rfl)) (jnot_of rfl)) (jnot_of rfl)) (hx403.2 _ _ (hx383.2 _ _ (hx371.2 _ _ haq369_py (jnot_of rfl)) (jnot_of rfl)) (jnot_of rfl)) (hx403.2 _ _ (hx383.2 _ _ (hx371.2 _ _ haq369_pz (jnot_of rfl)) (jnot_of rfl)) (jnot_of rfl)) (by omega) (by omega) (by rw [hXN]; omega) (by rw [hXN]; omega) (by rw [hYN]; omega) (by rw [hYN]; omega) (by rw [hZN]; omega) (by rw [hZN]; omega) (by rw [hZN]; by_cases e : x1.toInt = 3; exact Or.inl e; exact Or.inr (hz9 e))) (by omega) (Nat.zero_le _) (Nat.zero_le _) (Nat.le_of_ble_eq_true rfl) (fun r413 V413 h413 => ?_)
  obtain ⟨⟨y413, rfl, hl413, hh413, hP413_0⟩, hE413⟩ := h413
  have hE413 := hE413.symm
  subst hE413
  rw [hXN, hYN, hZN] at hP413_0
  clear hz9
  have K424 : ∀ (t0k424 : Int32), ((y413.toInt = 1 ∧ t0k424.toInt = 1) ∨ (y413.toInt = 0 ∧ t0k424.toInt = 0)) → J tS mX7_counts d 424 [some (.ref a0), some (.int x1), some (.int x2), some (.int y5), some (.int y251), some (.int i5n92), some (.int y168), some (.int y184), some (.int y215), some (.int y231)] [.int t0k424, .int y410, .int y5, .ref rg] V403 0 0 Q := by
    intro  t0k424     hk424_0
    refine J_iadd dX7_counts_424 ?_
    refine Jz_iast (r := ((-2147483648), 2147483647)) he5 jEq.rf hW id dX7_counts_425 (hx403.2 _ _ (hx383.2 _ _ (hx371.2 _ _ haq369_rg (jnot_of rfl)) (jnot_of rfl)) (jnot_of rfl)) rfl rfl (by omega) (by omega) (j_rng _).1 (j_rng _).2 (fun V425 G425 hW hx425 hA425 hp425 ho425 => ?_)
    obtain ⟨hN425, hv425⟩ := WT_rngI (r := ((-2147483648), 2147483647)) hW id rfl hA425
    clear hN425
    have he := he.trans (hx425.sub (jsub_of rfl))
    have hkp := hkp.trans (jkc.of hx425 (jnot_of rfl))
    have hrgN : jHid (((2 ≤ x2.toInt.toNat ∧ jbsd x1.toInt ((y177.toInt + jsx x1.toInt (y108.toInt + 1)), (y193.toInt + jsy x1.toInt (y108.toInt + 1) (y177.toInt + y193.toInt)), (y224.toInt + jsz x1.toInt (y108.toInt + 1)))) ∧ G425 (21 * x1.toInt + x2.toInt).toNat = F24n92 (21 * x1.toInt + x2.toInt).toNat + 1) ∨ (¬ (2 ≤ x2.toInt.toNat ∧ jbsd x1.toInt ((y177.toInt + jsx x1.toInt (y108.toInt + 1)), (y193.toInt + jsy x1.toInt (y108.toInt + 1) (y177.toInt + y193.toInt)), (y224.toInt + jsz x1.toInt (y108.toInt + 1)))) ∧ G425 (21 * x1.toInt + x2.toInt).toNat = F24n92 (21 * x1.toInt + x2.toInt).toNat)) := by
      rcases hk424_0 with ⟨q1, q2⟩ | ⟨q1, q2⟩
      · exact Or.inl ⟨hP413_0.elim (fun q => ⟨by omega, q.2.2⟩) (fun q => absurd q.1 (by omega)), by rw [hp425, hf410, show t0k424 = 1 from jI_inj.mp (q2.trans rfl)]⟩
      · exact Or.inr ⟨hP413_0.elim (fun q => absurd q.1 (by omega)) (fun q z => q.2 ⟨by omega, z.2⟩), by rw [hp425, hf410, show t0k424 = 0 from jI_inj.mp (q2.trans rfl), Int32.add_zero]⟩
    clear hk424_0 hP413_0
    refine J_aload_n dX7_counts_426 rfl ?_
    refine J_get jf_X7_51 dX7_counts_427 (hx425.2 _ _ (hx403.2 _ _ (hx383.2 _ _ hO371 (jnot_of rfl)) (jnot_of rfl)) (jnot_of rfl)) hF371_15 ?_
    refine J_iload_n dX7_counts_430 rfl ?_
    refine J_dup2 dX7_counts_431 rfl rfl ?_
    refine Jz_iald (r := ((-2147483648), 2147483647)) he5 dX7_counts_432 (hx425.2 _ _ (hx403.2 _ _ (hx383.2 _ _ (hx371.2 _ _ haq369_bg (jnot_of rfl)) (jnot_of rfl)) (jnot_of rfl)) (jnot_of rfl)) rfl hv369_bg (by omega) (by omega) (fun y432 hf432 hl432 hh432 => ?_)
    dsimp only at hl432 hh432
    clear hl432 hh432
    refine J_iload dX7_counts_433 rfl ?_
    have K454 : ∀ (t0k454 : Int32), (((0 < (y177.toInt + jsx x1.toInt (y108.toInt + 1)) ∧ jtp (((y177.toInt + jsx x1.toInt (y108.toInt + 1)), (y193.toInt + jsy x1.toInt (y108.toInt + 1) (y177.toInt + y193.toInt)), (y224.toInt + jsz x1.toInt (y108.toInt + 1))) :: (jpl3 (jPf F18n92 F19n92 F20n92) i5n92.toInt.toNat)) = (y177.toInt + jsx x1.toInt (y108.toInt + 1))) ∧ t0k454.toInt = 1) ∨ (¬ (0 < (y177.toInt + jsx x1.toInt (y108.toInt + 1)) ∧ jtp (((y177.toInt + jsx x1.toInt (y108.toInt + 1)), (y193.toInt + jsy x1.toInt (y108.toInt + 1) (y177.toInt + y193.toInt)), (y224.toInt + jsz x1.toInt (y108.toInt + 1))) :: (jpl3 (jPf F18n92 F19n92 F20n92) i5n92.toInt.toNat)) = (y177.toInt + jsx x1.toInt (y108.toInt + 1))) ∧ t0k454.toInt = 0)) → J tS mX7_counts d 454 [some (.ref a0), some (.int x1), some (.int x2), some (.int y5), some (.int y251), some (.int i5n92), some (.int y168), some (.int y184), some (.int y215), some (.int y231)] [.int t0k454, .int y432, .int y5, .ref bg] V425 0 0 Q := by
      intro  t0k454     hk454_0
      refine J_iadd dX7_counts_454 ?_
      refine Jz_iast (r := ((-2147483648), 2147483647)) he5 jEq.rf hW id dX7_counts_455 (hx425.2 _ _ (hx403.2 _ _ (hx383.2 _ _ (hx371.2 _ _ haq369_bg (jnot_of rfl)) (jnot_of rfl)) (jnot_of rfl)) (jnot_of rfl)) rfl rfl (by omega) (by omega) (j_rng _).1 (j_rng _).2 (fun V455 G455 hW hx455 hA455 hp455 ho455 => ?_)
      obtain ⟨hN455, hv455⟩ := WT_rngI (r := ((-2147483648), 2147483647)) hW id rfl hA455
      clear hN455
      have he := he.trans (hx455.sub (jsub_of rfl))
      have hkp := hkp.trans (jkc.of hx455 (jnot_of rfl))
      have hbgN : jHid (((0 < (y177.toInt + jsx x1.toInt (y108.toInt + 1)) ∧ jtp (((y177.toInt + jsx x1.toInt (y108.toInt + 1)), (y193.toInt + jsy x1.toInt (y108.toInt + 1) (y177.toInt + y193.toInt)), (y224.toInt + jsz x1.toInt (y108.toInt + 1))) :: (jpl3 (jPf F18n92 F19n92 F20n92) i5n92.toInt.toNat)) = (y177.toInt + jsx x1.toInt (y108.toInt + 1))) ∧ G455 (21 * x1.toInt + x2.toInt).toNat = F25n92 (21 * x1.toInt + x2.toInt).toNat + 1) ∨ (¬ (0 < (y177.toInt + jsx x1.toInt (y108.toInt + 1)) ∧ jtp (((y177.toInt + jsx x1.toInt (y108.toInt + 1)), (y193.toInt + jsy x1.toInt (y108.toInt + 1) (y177.toInt + y193.toInt)), (y224.toInt + jsz x1.toInt (y108.toInt + 1))) :: (jpl3 (jPf F18n92 F19n92 F20n92) i5n92.toInt.toNat)) = (y177.toInt + jsx x1.toInt (y108.toInt + 1))) ∧ G455 (21 * x1.toInt + x2.toInt).toNat = F25n92 (21 * x1.toInt + x2.toInt).toNat)) := by
        rcases hk454_0 with ⟨q1, q2⟩ | ⟨q1, q2⟩
        · exact Or.inl ⟨q1, by rw [hp455, hf432, show t0k454 = 1 from jI_inj.mp (q2.trans rfl)]⟩
        · exact Or.inr ⟨q1, by rw [hp455, hf432, show t0k454 = 0 from jI_inj.mp (q2.trans rfl), Int32.add_zero]⟩
      clear hk454_0
      refine J_goto (tgt := 485) dX7_counts_456 (by decide) ?_
      refine J_goto (tgt := 92) dX7_counts_485 (by decide) ?_
      have hm0 : (F17n92 i5n92.toInt.toNat).toInt = y108.toInt := e108
      have hm1 : (G111 i5n92.toInt.toNat).toInt = y108.toInt + 1 := by rw [hp111, he110.eq]
      have hoN : jot G383 G403 G425 G455 F23n92 F46n92 F24n92 F25n92 (21 * x1.toInt + x2.toInt).toNat := fun j hj => ⟨ho383 j hj, ho403 j hj, ho425 j hj, ho455 j hj⟩
      have hsN : jac G383 G403 G425 G455 (21 * x1.toInt + x2.toInt).toNat = jscB (2 ≤ x2.toInt.toNat) x1.toInt (((y177.toInt + jsx x1.toInt (y108.toInt + 1)), (y193.toInt + jsy x1.toInt (y108.toInt + 1) (y177.toInt + y193.toInt)), (y224.toInt + jsz x1.toInt (y108.toInt + 1))) :: (jpl3 (jPf F18n92 F19n92 F20n92) i5n92.toInt.toNat)) (jac F23n92 F46n92 F24n92 F25n92 (21 * x1.toInt + x2.toInt).toNat) := jscB_mk (b := 2 ≤ x2.toInt.toNat) (l := ((y177.toInt + jsx x1.toInt (y108.toInt + 1)), (y193.toInt + jsy x1.toInt (y108.toInt + 1) (y177.toInt + y193.toInt)), (y224.toInt + jsz x1.toInt (y108.toInt + 1))) :: (jpl3 (jPf F18n92 F19n92 F20n92) i5n92.toInt.toNat)) rfl hco.1 (by rw [hp383, he382.eq, e380]) hz398.eq hp403 hrgN hbgN
      have hrem2 : 1 ≤ x2.toInt → jrS x1.toInt x2.toInt.toNat i5n92.toInt y251.toInt (jac G383 G403 G425 G455 (21 * x1.toInt + x2.toInt).toNat) G286 G297 G308 G111 := fun _ => hremQ.leaf (by omega) (by rw [e108]; omega) (by rw [e108]; omega) (by rw [hm1, e108]) ho111 (by rw [e108, hPJ]; exact hnin) (by omega) (by rw [he251.eq]; omega) (by rw [e108, hPJ]; exact hsN) hPk
      refine J.mask [true, true, true, true, true, true, false, false, false, false] ?_
      exact ih92 _ y251 i5n92 fs371 G111 G286 G297 G308 G383 G403 G425 G455 F41n92 G360 hW he (((((hbq369_a0.mono hx371.1).mono hx383.1).mono hx403.1).mono hx425.1).mono hx455.1) (((((hbq369_rw.mono hx371.1).mono hx383.1).mono hx403.1).mono hx425.1).mono hx455.1) (((((hbq369_px.mono hx371.1).mono hx383.1).mono hx403.1).mono hx425.1).mono hx455.1) (((((hbq369_py.mono hx371.1).mono hx383.1).mono hx403.1).mono hx425.1).mono hx455.1) (((((hbq369_pz.mono hx371.1).mono hx383.1).mono hx403.1).mono hx425.1).mono hx455.1) (((((hbq369_kn.mono hx371.1).mono hx383.1).mono hx403.1).mono hx425.1).mono hx455.1) (((((hbq369_co.mono hx371.1).mono hx383.1).mono hx403.1).mono hx425.1).mono hx455.1) (((((hbq369_sq.mono hx371.1).mono hx383.1).mono hx403.1).mono hx425.1).mono hx455.1) (((((hbq369_rg.mono hx371.1).mono hx383.1).mono hx403.1).mono hx425.1).mono hx455.1) (((((hbq369_bg.mono hx371.1).mono hx383.1).mono hx403.1).mono hx425.1).mono hx455.1) (((((hbq369_se.mono hx371.1).mono hx383.1).mono hx403.1).mono hx425.1).mono hx455.1) (((((hbq369_hx.mono hx371.1).mono hx383.1).mono hx403.1).mono hx425.1).mono hx455.1) hkp (hx455.2 _ _ (hx425.2 _ _ (hx403.2 _ _ (hx383.2 _ _ hO371 (jnot_of rfl)) (jnot_of rfl)) (jnot_of rfl)) (jnot_of rfl)) hF371_4 hF371_6 hF371_7 hF371_8 hF371_11 hF371_12 hF371_13 hF371_14 hF371_15 hF371_16 hF371_17 (hx455.2 _ _ (hx425.2 _ _ (hx403.2 _ _ (hx383.2 _ _ (hx371.2 _ _ haq369_rw (jnot_of rfl)) (jnot_of rfl)) (jnot_of rfl)) (jnot_of rfl)) (jnot_of rfl)) (hx455.2 _ _ (hx425.2 _ _ (hx403.2 _ _ (hx383.2 _ _ (hx371.2 _ _ haq369_px (jnot_of rfl)) (jnot_of rfl)) (jnot_of rfl)) (jnot_of rfl)) (jnot_of rfl)) (hx455.2 _ _ (hx425.2 _ _ (hx403.2 _ _ (hx383.2 _ _ (hx371.2 _ _ haq369_py (jnot_of rfl)) (jnot_of rfl)) (jnot_of rfl)) (jnot_of rfl)) (jnot_of rfl)) (hx455.2 _ _ (hx425.2 _ _ (hx403.2 _ _ (hx383.2 _ _ (hx371.2 _ _ haq369_pz (jnot_of rfl)) (jnot_of rfl)) (jnot_of rfl)) (jnot_of rfl)) (jnot_of rfl)) (hx455.2 _ _ (hx425.2 _ _ (hx403.2 _ _ hA383 (jnot_of rfl)) (jnot_of rfl)) (jnot_of rfl)) (hx455.2 _ _ (hx425.2 _ _ hA403 (jnot_of rfl)) (jnot_of rfl)) (hx455.2 _ _ hA425 (jnot_of rfl)) hA455 (hx455.2 _ _ (hx425.2 _ _ (hx403.2 _ _ (hx383.2 _ _ (hx371.2 _ _ haq369_se (jnot_of rfl)) (jnot_of rfl)) (jnot_of rfl)) (jnot_of rfl)) (jnot_of rfl)) (hx455.2 _ _ (hx425.2 _ _ (hx403.2 _ _ (hx383.2 _ _ (hx371.2 _ _ hA360 (jnot_of rfl)) (jnot_of rfl)) (jnot_of rfl)) (jnot_of rfl)) (jnot_of rfl)) (hx455.2 _ _ (hx425.2 _ _ (hx403.2 _ _ (hx383.2 _ _ (hx371.2 _ _ haq369_kn (jnot_of rfl)) (jnot_of rfl)) (jnot_of rfl)) (jnot_of rfl)) (jnot_of rfl)) (by (try simp only [he251.eq, true_and, and_true]) <;> omega) (by (try simp only [he251.eq, true_and, and_true]) <;> omega) (fun k hk => by by_cases h9 : (k : Int) = i5n92.toInt; (have e9 : k = i5n92.toInt.toNat := by omega); subst e9; rw [hp111, he110.eq]; omega; rw [ho111 k (by omega)]; exact hrow k (by omega)) (fun k hk => by rw [← hPk k (by omega)]; exact hpl k hk) (fun i k h1 h2 => by rw [← hPk k (by omega), ← hPk i (by omega)]; exact hnd i k h1 h2) (by rw [← jplb_congr (i5n92.toInt + 1).toNat (fun i hi => hPk i (by omega))]; exact hse) (fun k hk => by rw [ho360 k (by omega), ← jpl3_congr k (fun i hi => hPk i (by omega))]; exact hhx k hk) hrem2 (by rw [hp383, he382.eq, he251.eq]; omega) (fun q => absurd q (by omega)) (ho5.trans hoN) (by (try simp only [he251.eq, true_and, and_true]) <;> omega)
    refine Jz_if_le (tgt := 453) he184 dX7_counts_435 (by decide) (fun c435 => ?_) (fun c435 => ?_)
    · refine Jz_iconst 0 dX7_counts_453 (by decide) (fun y453 he453 => ?_)
      exact K454  y453  (by first | exact Or.inl ⟨⟨by omega, by omega⟩, by first | exact he449.eq | omega⟩ | exact Or.inr ⟨fun z => absurd z.1 (by omega), he453.eq⟩ | exact Or.inr ⟨fun z => absurd z.2 (by omega), he453.eq⟩)
    · refine J_aload_n dX7_counts_438 rfl ?_
      refine J_get jf_X7_58 dX7_counts_439 (hx425.2 _ _ (hx403.2 _ _ (hx383.2 _ _ hO371 (jnot_of rfl)) (jnot_of rfl)) (jnot_of rfl)) hF371_17 ?_
      refine J_iload_n dX7_counts_442 rfl ?_
      refine Jz_iald (r := ((-2147483648), 2147483647)) jEq.rf dX7_counts_443 (hx425.2 _ _ (hx403.2 _ _ (hx383.2 _ _ (hx371.2 _ _ hA360 (jnot_of rfl)) (jnot_of rfl)) (jnot_of rfl)) (jnot_of rfl)) rfl hv369_hx (by omega) (by omega) (fun y443 hf443 hl443 hh443 => ?_)
      dsimp only at hl443 hh443
      clear hl443 hh443
      have e443 : y443.toInt = jtp (((y177.toInt + jsx x1.toInt (y108.toInt + 1)), (y193.toInt + jsy x1.toInt (y108.toInt + 1) (y177.toInt + y193.toInt)), (y224.toInt + jsz x1.toInt (y108.toInt + 1))) :: (jpl3 (jPf F18n92 F19n92 F20n92) i5n92.toInt.toNat)) := by rw [← hf443, hN1, show i5n92.toInt.toNat + 1 = (i5n92.toInt + 1).toNat by omega, hp360]; exact hk360_0
      refine J_iload dX7_counts_444 rfl ?_
      refine Jz_icmp_ne (tgt := 453) jEq.rf he184 dX7_counts_446 (by decide) (fun c446 => ?_) (fun c446 => ?_)
      · refine Jz_iconst 0 dX7_counts_453 (by decide) (fun y453 he453 => ?_)
        exact K454  y453  (by first | exact Or.inl ⟨⟨by omega, by omega⟩, by first | exact he449.eq | omega⟩ | exact Or.inr ⟨fun z => absurd z.1 (by omega), he453.eq⟩ | exact Or.inr ⟨fun z => absurd z.2 (by omega), he453.eq⟩)
      · refine Jz_iconst 1 dX7_counts_449 (by decide) (fun y449 he449 => ?_)
        refine J_goto (tgt := 454) dX7_counts_450 (by decide) ?_
        exact K454  y449  (by first | exact Or.inl ⟨⟨by omega, by omega⟩, by first | exact he449.eq | omega⟩ | exact Or.inr ⟨fun z => absurd z.1 (by omega), he453.eq⟩ | exact Or.inr ⟨fun z => absurd z.2 (by omega), he453.eq⟩)
  refine Jz_if_eq (tgt := 423) jEq.rf dX7_counts_416 (by decide) (fun c416 => ?_) (fun c416 => ?_)
  · refine Jz_iconst 0 dX7_counts_423 (by decide) (fun y423 he423 => ?_)
    exact K424  y423  (by (try simp only [he423.eq, true_and, and_true]) <;> omega)
  · refine Jz_iconst 1 dX7_counts_419 (by decide) (fun y419 he419 => ?_)
    refine J_goto (tgt := 424) dX7_counts_420 (by decide) ?_
    exact K424  y419  (by (try simp only [he419.eq, true_and, and_true]) <;> omega)
