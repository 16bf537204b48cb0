set_option maxRecDepth 100000 in
set_option maxHeartbeats 8000000 in
theorem w_X7_counts_z_s369 {tS : jTS} (d : Nat) (V0 : jH) (a0 : Nat) (x1 : Int32) (x2 : Int32) (rw : Nat) (px : Nat) (py : Nat) (pz : Nat) (kn : Nat) (co : Nat) (sq : Nat) (rg : Nat) (bg : Nat) (se : Nat) (hx : Nat) (RW : Nat → Int32) (PX : Nat → Int32) (PY : Nat → Int32) (PZ : Nat → Int32) (KN : Nat → Int32) (CO : Nat → Int32) (SQ : Nat → Int64) (RG : Nat → Int32) (BG : Nat → Int32) (SE : Nat → Int32) (HX : Nat → Int32) (Q : Option Value → jH → Prop) (N : Nat) (i4n92 : Int32) (i5n92 : Int32) (gs92a0 : List Value) (F17n92 : Nat → Int32) (F18n92 : Nat → Int32) (F19n92 : Nat → Int32) (F20n92 : Nat → Int32) (F23n92 : Nat → Int32) (F46n92 : Nat → Int64) (F24n92 : Nat → Int32) (F25n92 : Nat → Int32) (F41n92 : Nat → Int32) (F26n92 : Nat → Int32) (y5 : Int32) (y251 : Int32) (y168 : Int32) (y184 : Int32) (y215 : Int32) (y231 : Int32) (y108 : Int32) (y110 : Int32) (y177 : Int32) (y193 : Int32) (y224 : Int32) (t0k360 : Int32) (V360 : jH) (G23 : Nat → Int32) (G111 : Nat → Int32) (G286 : Nat → Int32) (G297 : Nat → Int32) (G308 : Nat → Int32) (G360 : Nat → Int32) (hQ : ∀ (r : Option Value) (V : jH), (fun r V => (jPost [.inr 5, .inl 40, .inl 23, .inl 17, .inl 18, .inl 19, .inl 20, .inl 41, .inl 26, .inl 46, .inl 24, .inl 25] V0 rV) r V ∧ (∃ (KN2 CO2 : Nat → Int32) (SQ2 : Nat → Int64) (RG2 BG2 SE2 : Nat → Int32), V kn = some (.inl (40, 84, .inl KN2)) ∧ V co = some (.inl (23, 84, .inl CO2)) ∧ V sq = some (.inl (46, 84, .inr (.inl SQ2))) ∧ V rg = some (.inl (24, 84, .inl RG2)) ∧ V bg = some (.inl (25, 84, .inl BG2)) ∧ V se = some (.inl (41, 79507, .inl SE2)) ∧ jsn SE2 [] ∧ (KN2 (21 * x1.toInt + x2.toInt).toNat).toInt = 1 ∧ jmk x1.toInt x2.toInt.toNat CO2 SQ2 RG2 BG2 (21 * x1.toInt + x2.toInt).toNat ∧ (∀ j : Nat, j ≠ (21 * x1.toInt + x2.toInt).toNat → KN2 j = KN j) ∧ jot CO2 SQ2 RG2 BG2 CO SQ RG BG (21 * x1.toInt + x2.toInt).toNat) ∧ jkc 5 [0, 23, 24] V0 V) r V → Q r V) (hm : ((600001 - i4n92.toInt) * 1000 + (i5n92.toInt + 1) * 10 + (7 - (F17n92 i5n92.toInt.toNat).toInt)).toNat < N + 1) (hall : 0 ≤ i4n92.toInt ∧ i4n92.toInt ≤ 600000) (hrow : ∀ k : Nat, (k : Int) ≤ i5n92.toInt → -1 ≤ (F17n92 k).toInt ∧ (F17n92 k).toInt < jdir x1.toInt) (hpl : ∀ k : Nat, (k : Int) ≤ i5n92.toInt → jnb x1.toInt k (jPf F18n92 F19n92 F20n92 k)) (hnd : ∀ i k : Nat, i < k → (k : Int) ≤ i5n92.toInt → ¬ jPf F18n92 F19n92 F20n92 k = jPf F18n92 F19n92 F20n92 i) (hse : jsn F41n92 (jplb (jPf F18n92 F19n92 F20n92) (i5n92.toInt + 1).toNat)) (hhx : ∀ k : Nat, (k : Int) ≤ i5n92.toInt → (F26n92 k).toInt = jtp (jpl3 (jPf F18n92 F19n92 F20n92) k)) (hco : 0 ≤ (F23n92 (21 * x1.toInt + x2.toInt).toNat).toInt ∧ (F23n92 (21 * x1.toInt + x2.toInt).toNat).toInt ≤ i4n92.toInt + 1) (ho5 : jot F23n92 F46n92 F24n92 F25n92 CO SQ RG BG (21 * x1.toInt + x2.toInt).toNat) (ih92 : ∀ (V : jH) (i4n92 : Int32) (i5n92 : Int32) (gs92a0 : List Value) (F17n92 : Nat → Int32) (F18n92 : Nat → Int32) (F19n92 : Nat → Int32) (F20n92 : Nat → Int32) (F23n92 : Nat → Int32) (F46n92 : Nat → Int64) (F24n92 : Nat → Int32) (F25n92 : Nat → Int32) (F41n92 : Nat → Int32) (F26n92 : Nat → Int32), WT V → jeff [.inr 5, .inl 40, .inl 23, .inl 17, .inl 18, .inl 19, .inl 20, .inl 41, .inl 26, .inl 46, .inl 24, .inl 25] V0 V → (jis V (.inr 5) a0) → (jis V (.inl 17) rw) → (jis V (.inl 18) px) → (jis V (.inl 19) py) → (jis V (.inl 20) pz) → (jis V (.inl 40) kn) → (jis V (.inl 23) co) → (jis V (.inl 46) sq) → (jis V (.inl 24) rg) → (jis V (.inl 25) bg) → (jis V (.inl 41) se) → (jis V (.inl 26) hx) → (jkc 5 [0, 23, 24] V0 V) → (V a0 = some (.inr (5, gs92a0))) → (gs92a0[4]? = some (.ref rw)) → (gs92a0[6]? = some (.ref px)) → (gs92a0[7]? = some (.ref py)) → (gs92a0[8]? = some (.ref pz)) → (gs92a0[11]? = some (.ref kn)) → (gs92a0[12]? = some (.ref co)) → (gs92a0[13]? = some (.ref sq)) → (gs92a0[14]? = some (.ref rg)) → (gs92a0[15]? = some (.ref bg)) → (gs92a0[16]? = some (.ref se)) → (gs92a0[17]? = some (.ref hx)) → (V rw = some (.inl (17, 120, .inl F17n92))) → (V px = some (.inl (18, 121, .inl F18n92))) → (V py = some (.inl (19, 121, .inl F19n92))) → (V pz = some (.inl (20, 121, .inl F20n92))) → (V co = some (.inl (23, 84, .inl F23n92))) → (V sq = some (.inl (46, 84, .inr (.inl F46n92)))) → (V rg = some (.inl (24, 84, .inl F24n92))) → (V bg = some (.inl (25, 84, .inl F25n92))) → (V se = some (.inl (41, 79507, .inl F41n92))) → (V hx = some (.inl (26, 22, .inl F26n92))) → (V kn = some (.inl (40, 84, .inl G23))) → (-1 ≤ i5n92.toInt ∧ i5n92.toInt ≤ 19 ∧ (i5n92.toInt < x2.toInt ∨ x2.toInt = 0)) → (0 ≤ i4n92.toInt ∧ i4n92.toInt ≤ 600000) → (∀ k : Nat, (k : Int) ≤ i5n92.toInt → -1 ≤ (F17n92 k).toInt ∧ (F17n92 k).toInt < jdir x1.toInt) → (∀ k : Nat, (k : Int) ≤ i5n92.toInt → jnb x1.toInt k (jPf F18n92 F19n92 F20n92 k)) → (∀ i k : Nat, i < k → (k : Int) ≤ i5n92.toInt → ¬ jPf F18n92 F19n92 F20n92 k = jPf F18n92 F19n92 F20n92 i) → (jsn F41n92 (jplb (jPf F18n92 F19n92 F20n92) (i5n92.toInt + 1).toNat)) → (∀ k : Nat, (k : Int) ≤ i5n92.toInt → (F26n92 k).toInt = jtp (jpl3 (jPf F18n92 F19n92 F20n92) k)) → (1 ≤ x2.toInt → jrS x1.toInt x2.toInt.toNat i5n92.toInt i4n92.toInt (jac F23n92 F46n92 F24n92 F25n92 (21 * x1.toInt + x2.toInt).toNat) F18n92 F19n92 F20n92 F17n92) → (0 ≤ (F23n92 (21 * x1.toInt + x2.toInt).toNat).toInt ∧ (F23n92 (21 * x1.toInt + x2.toInt).toNat).toInt ≤ i4n92.toInt + 1) → (x2.toInt = 0 → (F23n92 (21 * x1.toInt + x2.toInt).toNat).toInt = 1 ∧ F46n92 (21 * x1.toInt + x2.toInt).toNat = 0 ∧ F24n92 (21 * x1.toInt + x2.toInt).toNat = 0 ∧ F25n92 (21 * x1.toInt + x2.toInt).toNat = 0 ∧ i5n92.toInt = 0) → (jot F23n92 F46n92 F24n92 F25n92 CO SQ RG BG (21 * x1.toInt + x2.toInt).toNat) → ((600001 - i4n92.toInt) * 1000 + (i5n92.toInt + 1) * 10 + (7 - (F17n92 i5n92.toInt.toNat).toInt)).toNat < N → J tS mX7_counts d 92 [some (.ref a0), some (.int x1), some (.int x2), some (.int y5), some (.int i4n92), some (.int i5n92), none, none, none, none] [] V 0 0 Q) (hd : 2 ≤ d) (hp0 : 0 ≤ x1.toInt) (hp1 : x1.toInt ≤ 3) (hp2 : 0 ≤ x2.toInt) (hp3 : x2.toInt ≤ 20) (hp4 : jsn SE []) (hp5 : jmo x1.toInt x2.toInt.toNat KN CO SQ RG BG (21 * x1.toInt + x2.toInt).toNat) (hW : WT V360) (he : jeff [.inr 5, .inl 40, .inl 23, .inl 17, .inl 18, .inl 19, .inl 20, .inl 41, .inl 26, .inl 46, .inl 24, .inl 25] V0 V360) (hkp : jkc 5 [0, 23, 24] V0 V360) (hbq369_a0 : jis V360 (.inr 5) a0) (hbq369_rw : jis V360 (.inl 17) rw) (hbq369_px : jis V360 (.inl 18) px) (hbq369_py : jis V360 (.inl 19) py) (hbq369_pz : jis V360 (.inl 20) pz) (hbq369_kn : jis V360 (.inl 40) kn) (hbq369_co : jis V360 (.inl 23) co) (hbq369_sq : jis V360 (.inl 46) sq) (hbq369_rg : jis V360 (.inl 24) rg) (hbq369_bg : jis V360 (.inl 25) bg) (hbq369_se : jis V360 (.inl 41) se) (hbq369_hx : jis V360 (.inl 26) hx) (hOq369_a0 : V360 a0 = some (.inr (5, gs92a0))) (hKq369_a0 : jokO V360 (jFs 5) gs92a0) (hFgs92a0_4 : gs92a0[4]? = some (.ref rw)) (hFgs92a0_6 : gs92a0[6]? = some (.ref px)) (hFgs92a0_7 : gs92a0[7]? = some (.ref py)) (hFgs92a0_8 : gs92a0[8]? = some (.ref pz)) (hFgs92a0_11 : gs92a0[11]? = some (.ref kn)) (hFgs92a0_12 : gs92a0[12]? = some (.ref co)) (hFgs92a0_13 : gs92a0[13]? = some (.ref sq)) (hFgs92a0_14 : gs92a0[14]? = some (.ref rg)) (hFgs92a0_15 : gs92a0[15]? = some (.ref bg)) (hFgs92a0_16 : gs92a0[16]? = some (.ref se)) (hFgs92a0_17 : gs92a0[17]? = some (.ref hx)) (haq369_co : V360 co = some (.inl (23, 84, .inl F23n92))) (haq369_sq : V360 sq = some (.inl (46, 84, .inr (.inl F46n92)))) (haq369_rg : V360 rg = some (.inl (24, 84, .inl F24n92))) (haq369_bg : V360 bg = some (.inl (25, 84, .inl F25n92))) (haq369_se : V360 se = some (.inl (41, 79507, .inl F41n92))) (haq369_kn : V360 kn = some (.inl (40, 84, .inl G23))) (haq369_rw : V360 rw = some (.inl (17, 120, .inl G111))) (haq369_px : V360 px = some (.inl (18, 121, .inl G286))) (haq369_py : V360 py = some (.inl (19, 121, .inl G297))) (haq369_pz : V360 pz = some (.inl (20, 121, .inl G308))) (hA360 : V360 hx = some (.inl (26, 22, .inl G360))) (he5 : jEq y5.toInt ((21) * (x1.toInt) + x2.toInt)) (he251 : jEq y251.toInt (i4n92.toInt + 1)) (he168 : jEq y168.toInt (y108.toInt + 1)) (he184 : jEq y184.toInt (y177.toInt + (jsx (x1.toInt) (y108.toInt + 1)))) (he215 : jEq y215.toInt (y193.toInt + (jsy (x1.toInt) (y108.toInt + 1) (y177.toInt + y193.toInt)))) (he231 : jEq y231.toInt (y224.toInt + (jsz (x1.toInt) (y108.toInt + 1)))) (he110 : jEq y110.toInt (y108.toInt + 1)) (hjb : 3 ≤ jdir x1.toInt ∧ jdir x1.toInt ≤ 6) (hdx : i5n92.toInt < x2.toInt) (hd19 : i5n92.toInt ≤ 19) (hremQ : jrS x1.toInt x2.toInt.toNat i5n92.toInt i4n92.toInt (jac F23n92 F46n92 F24n92 F25n92 (21 * x1.toInt + x2.toInt).toNat) F18n92 F19n92 F20n92 F17n92) (c94 : ¬ i5n92.toInt < 0) (c98 : ¬ x2.toInt ≤ 0) (hb108 : -1 ≤ y108.toInt ∧ y108.toInt < jdir x1.toInt) (e108 : (F17n92 i5n92.toInt.toNat).toInt = y108.toInt) (hp111 : G111 i5n92.toInt.toNat = y110) (ho111 : ∀ k : Nat, k ≠ i5n92.toInt.toNat → G111 k = F17n92 k) (c123 : ¬ y108.toInt + 1 = jdir x1.toInt) (hq0 : jnb x1.toInt i5n92.toInt.toNat ((jPf F18n92 F19n92 F20n92) i5n92.toInt.toNat)) (e177 : (F18n92 i5n92.toInt.toNat).toInt = y177.toInt) (e193 : (F19n92 i5n92.toInt.toNat).toInt = y193.toInt) (e224 : (F20n92 i5n92.toInt.toNat).toInt = y224.toInt) (hbnd : (-i5n92.toInt ≤ y177.toInt ∧ y177.toInt ≤ i5n92.toInt) ∧ (-i5n92.toInt ≤ y193.toInt ∧ y193.toInt ≤ i5n92.toInt) ∧ (-i5n92.toInt ≤ y224.toInt ∧ y224.toInt ≤ i5n92.toInt)) (hbsx : -1 ≤ jsx x1.toInt (y108.toInt + 1) ∧ jsx x1.toInt (y108.toInt + 1) ≤ 1) (hbsy : -1 ≤ jsy x1.toInt (y108.toInt + 1) (y177.toInt + y193.toInt) ∧ jsy x1.toInt (y108.toInt + 1) (y177.toInt + y193.toInt) ≤ 1) (hbsz : -1 ≤ jsz x1.toInt (y108.toInt + 1) ∧ jsz x1.toInt (y108.toInt + 1) ≤ 1) (c258 : i4n92.toInt + 1 ≤ 600000) (hPJ : jnx x1.toInt (y108.toInt + 1) ((jPf F18n92 F19n92 F20n92) i5n92.toInt.toNat) = ((y177.toInt + jsx x1.toInt (y108.toInt + 1)), (y193.toInt + jsy x1.toInt (y108.toInt + 1) (y177.toInt + y193.toInt)), (y224.toInt + jsz x1.toInt (y108.toInt + 1)))) (hnbN : jnb x1.toInt (i5n92.toInt.toNat + 1) ((y177.toInt + jsx x1.toInt (y108.toInt + 1)), (y193.toInt + jsy x1.toInt (y108.toInt + 1) (y177.toInt + y193.toInt)), (y224.toInt + jsz x1.toInt (y108.toInt + 1)))) (hbxN : jbx ((y177.toInt + jsx x1.toInt (y108.toInt + 1)), (y193.toInt + jsy x1.toInt (y108.toInt + 1) (y177.toInt + y193.toInt)), (y224.toInt + jsz x1.toInt (y108.toInt + 1)))) (hsb : 0 ≤ jspot ((y177.toInt + jsx x1.toInt (y108.toInt + 1)), (y193.toInt + jsy x1.toInt (y108.toInt + 1) (y177.toInt + y193.toInt)), (y224.toInt + jsz x1.toInt (y108.toInt + 1))) ∧ jspot ((y177.toInt + jsx x1.toInt (y108.toInt + 1)), (y193.toInt + jsy x1.toInt (y108.toInt + 1) (y177.toInt + y193.toInt)), (y224.toInt + jsz x1.toInt (y108.toInt + 1))) ≤ 79506) (hnin : ¬ ((y177.toInt + jsx x1.toInt (y108.toInt + 1)), (y193.toInt + jsy x1.toInt (y108.toInt + 1) (y177.toInt + y193.toInt)), (y224.toInt + jsz x1.toInt (y108.toInt + 1))) ∈ (jpl3 (jPf F18n92 F19n92 F20n92) i5n92.toInt.toNat)) (hPk : ∀ k : Nat, k ≤ i5n92.toInt.toNat → (jPf F18n92 F19n92 F20n92) k = jPf G286 G297 G308 k) (hPN : jPf G286 G297 G308 (i5n92.toInt.toNat + 1) = ((y177.toInt + jsx x1.toInt (y108.toInt + 1)), (y193.toInt + jsy x1.toInt (y108.toInt + 1) (y177.toInt + y193.toInt)), (y224.toInt + jsz x1.toInt (y108.toInt + 1)))) (hk360_0 : t0k360.toInt = jtp (((y177.toInt + jsx x1.toInt (y108.toInt + 1)), (y193.toInt + jsy x1.toInt (y108.toInt + 1) (y177.toInt + y193.toInt)), (y224.toInt + jsz x1.toInt (y108.toInt + 1))) :: (jpl3 (jPf F18n92 F19n92 F20n92) i5n92.toInt.toNat))) (hp360 : G360 (i5n92.toInt + 1).toNat = t0k360) (ho360 : ∀ k : Nat, k ≠ (i5n92.toInt + 1).toNat → G360 k = F26n92 k) (c366 : i5n92.toInt + 1 = x2.toInt) : J tS mX7_counts d 369 [some (.ref a0), some (.int x1), some (.int x2), some (.int y5), some (.int y251), some (.int i5n92), some (.int y168), some (.int y184), some (.int y215), some (.int y231)] [] V360 0 0 Q := by
  obtain ⟨hN9, hv369_co⟩ := WT_rngI (r := ((-2147483648), 2147483647)) hW id rfl haq369_co
  clear hN9
  obtain ⟨hN9, hv369_rg⟩ := WT_rngI (r := ((-2147483648), 2147483647)) hW id rfl haq369_rg
  clear hN9
  obtain ⟨hN9, hv369_bg⟩ := WT_rngI (r := ((-2147483648), 2147483647)) hW id rfl haq369_bg
  clear hN9
  obtain ⟨hN9, hv369_se⟩ := WT_rngI (r := (0, 1)) hW id rfl haq369_se
  clear hN9
  obtain ⟨hN9, hv369_kn⟩ := WT_rngI (r := (0, 1)) hW id rfl haq369_kn
  clear hN9
  obtain ⟨hN9, hv369_rw⟩ := WT_rngI (r := ((-2147483648), 2147483647)) hW id rfl haq369_rw
  clear hN9
  obtain ⟨hN9, hv369_px⟩ := WT_rngI (r := ((-2147483648), 2147483647)) hW id rfl haq369_px
  clear hN9
  obtain ⟨hN9, hv369_py⟩ := WT_rngI (r := ((-2147483648), 2147483647)) hW id rfl haq369_py
  clear hN9
  obtain ⟨hN9, hv369_pz⟩ := WT_rngI (r := ((-2147483648), 2147483647)) hW id rfl haq369_pz
  clear hN9
  obtain ⟨hN9, hv369_hx⟩ := WT_rngI (r := ((-2147483648), 2147483647)) hW id rfl hA360
  clear hN9
  refine J_aload_n dX7_counts_369 rfl ?_
  refine J_iload_n dX7_counts_370 rfl ?_
  refine Jz_putI hOq369_a0 hW id rfl jf_X7_109 jt_X7_5 jEq.rf dX7_counts_371 (by omega) (by omega) (fun _ _ => ⟨rfl, rfl⟩) (fun V371 fs371 hW hx371 hO371 hS371 hT371 hB371 => ?_)
  have hK371 : jokO _ (jFs 5) fs371 := hW _ _ id hO371
  have hF371_4 := (hT371 4 (by decide)).trans hFgs92a0_4
  have hF371_6 := (hT371 6 (by decide)).trans hFgs92a0_6
  have hF371_7 := (hT371 7 (by decide)).trans hFgs92a0_7
  have hF371_8 := (hT371 8 (by decide)).trans hFgs92a0_8
  have hF371_11 := (hT371 11 (by decide)).trans hFgs92a0_11
  have hF371_12 := (hT371 12 (by decide)).trans hFgs92a0_12
  have hF371_13 := (hT371 13 (by decide)).trans hFgs92a0_13
  have hF371_14 := (hT371 14 (by decide)).trans hFgs92a0_14
  have hF371_15 := (hT371 15 (by decide)).trans hFgs92a0_15
  have hF371_16 := (hT371 16 (by decide)).trans hFgs92a0_16
  have hF371_17 := (hT371 17 (by decide)).trans hFgs92a0_17
  have he := he.trans (hx371.sub (jsub_of rfl))
  have hkp := hkp.trans (jkc.put hOq369_a0 hO371 hT371 hB371 (by decide))
  refine J_aload_n dX7_counts_374 rfl ?_
  refine J_get jf_X7_41 dX7_counts_375 hO371 hF371_12 ?_
  refine J_iload_n dX7_counts_378 rfl ?_
  refine J_dup2 dX7_counts_379 rfl rfl ?_
  refine Jz_iald (r := ((-2147483648), 2147483647)) he5 dX7_counts_380 (hx371.2 _ _ haq369_co (jnot_of rfl)) rfl hv369_co (by omega) (by omega) (fun y380 hf380 hl380 hh380 => ?_)
  dsimp only at hl380 hh380
  clear hl380 hh380
  have e380 : (F23n92 (21 * x1.toInt + x2.toInt).toNat).toInt = y380.toInt := by rw [hf380]
  refine Jz_iconst 1 dX7_counts_381 (by decide) (fun y381 he381 => ?_)
  refine Jz_iadd jEq.rf he381 dX7_counts_382 (by omega) (by omega) (fun y382 he382 => ?_)
  refine Jz_iast (r := ((-2147483648), 2147483647)) he5 he382 hW id dX7_counts_383 (hx371.2 _ _ haq369_co (jnot_of rfl)) rfl rfl (by omega) (by omega) (by omega) (by omega) (fun V383 G383 hW hx383 hA383 hp383 ho383 => ?_)
  obtain ⟨hN383, hv383⟩ := WT_rngI (r := ((-2147483648), 2147483647)) hW id rfl hA383
  clear hN383
  have he := he.trans (hx383.sub (jsub_of rfl))
  have hkp := hkp.trans (jkc.of hx383 (jnot_of rfl))
  refine J_aload_n dX7_counts_384 rfl ?_
  refine J_get jf_X7_44 dX7_counts_385 (hx383.2 _ _ hO371 (jnot_of rfl)) hF371_13 ?_
  refine J_iload_n dX7_counts_388 rfl ?_
  refine J_dup2 dX7_counts_389 rfl rfl ?_
  refine Jz_laldx he5 dX7_counts_390 (hx383.2 _ _ (hx371.2 _ _ haq369_sq (jnot_of rfl)) (jnot_of rfl)) rfl (by omega) (by omega) ?_
  refine J_iload_n dX7_counts_391 rfl ?_
  refine J_iload dX7_counts_392 rfl ?_
  refine J_iload dX7_counts_394 rfl ?_
  refine J_iload dX7_counts_396 rfl ?_
  refine J_callS4 moX7_square jw_ml_X7_152 jw_st_X7_square dX7_counts_398 (w_X7_square_z (d - 1) _ x1 y184 y215 y231 (by omega)   (by (try simp only [he184.eq, true_and, and_true]) <;> omega) (by (try simp only [he184.eq, true_and, and_true]) <;> omega) (by (try simp only [he215.eq, true_and, and_true]) <;> omega) (by (try simp only [he215.eq, true_and, and_true]) <;> omega) (by (try simp only [he231.eq, true_and, and_true]) <;> omega) (by (try simp only [he231.eq, true_and, and_true]) <;> omega)) (by omega) (Nat.zero_le _) (Nat.zero_le _) (Nat.le_of_ble_eq_true rfl) (fun r398 V398 h398 => ?_)
  obtain ⟨⟨y398, rfl, hl398, hh398, hP398_0⟩, hE398⟩ := h398
  have hE398 := hE398.symm
  subst hE398
  clear hl398 hh398
  try simp only [he184.eq, he215.eq, he231.eq] at hP398_0
  have hz398 : jEq y398.toInt (jsq (x1.toInt) (y177.toInt + (jsx (x1.toInt) (y108.toInt + 1))) (y193.toInt + (jsy (x1.toInt) (y108.toInt + 1) (y177.toInt + y193.toInt))) (y224.toInt + (jsz (x1.toInt) (y108.toInt + 1)))) := hP398_0
  clear hP398_0
  refine J_i2l dX7_counts_401 rfl ?_
  refine J_ladd dX7_counts_402 ?_
  refine Jz_lastB he5 hW id dX7_counts_403 (hx383.2 _ _ (hx371.2 _ _ haq369_sq (jnot_of rfl)) (jnot_of rfl)) rfl rfl (by omega) (by omega) (fun V403 G403 hW hx403 hA403 hp403 ho403 hB403 => ?_)
  have he := he.trans (hx403.sub (jsub_of rfl))
  have hkp := hkp.trans (jkc.of hx403 (jnot_of rfl))
  refine J_aload_n dX7_counts_404 rfl ?_
  refine J_get jf_X7_48 dX7_counts_405 (hx403.2 _ _ (hx383.2 _ _ hO371 (jnot_of rfl)) (jnot_of rfl)) hF371_14 ?_
  refine J_iload_n dX7_counts_408 rfl ?_
  refine J_dup2 dX7_counts_409 rfl rfl ?_
  refine Jz_iald (r := ((-2147483648), 2147483647)) he5 dX7_counts_410 (hx403.2 _ _ (hx383.2 _ _ (hx371.2 _ _ haq369_rg (jnot_of rfl)) (jnot_of rfl)) (jnot_of rfl)) rfl hv369_rg (by omega) (by omega) (fun y410 hf410 hl410 hh410 => ?_)
  dsimp only at hl410 hh410
  clear hl410 hh410
  refine J_aload_n dX7_counts_411 rfl ?_
  refine J_iload_n dX7_counts_412 rfl ?_
  have hN1 : x2.toInt.toNat = i5n92.toInt.toNat + 1 := by omega
  have hXN : (G286 x2.toInt.toNat).toInt = (y177.toInt + jsx x1.toInt (y108.toInt + 1)) := by rw [hN1]; exact congrArg (fun p : jP3 => p.1) hPN
  have hYN : (G297 x2.toInt.toNat).toInt = (y193.toInt + jsy x1.toInt (y108.toInt + 1) (y177.toInt + y193.toInt)) := by rw [hN1]; exact congrArg (fun p : jP3 => p.2.1) hPN
  have hZN : (G308 x2.toInt.toNat).toInt = (y224.toInt + jsz x1.toInt (y108.toInt + 1)) := by rw [hN1]; exact congrArg (fun p : jP3 => p.2.2) hPN
  have hz9 := hnbN.2.2.2
  dsimp only at hz9
  refine Jw_callV1 (q9 := (RX7, TX7, 34)) moX7_isRing jw_ml_X7_156 jw_im_X7_isRing jw_se_X7_isRing (((hbq369_a0.mono hx371.1).mono hx383.1).mono hx403.1) rfl rfl dX7_counts_413 (w_X7_isRing_z (d - 1) _ a0 x1 x2 px py pz G286 G297 G308 (by omega) hW  (((hbq369_a0.mono hx371.1).mono hx383.1).mono hx403.1) ⟨_, (hx403.2 _ _ (hx383.2 _ _ hO371 (jnot_of rfl)) (jnot_of rfl)), hS371⟩ ⟨_, (hx403.2 _ _ (hx383.2 _ _ hO371 (jnot_of rfl)) (jnot_of rfl)), hF371_6⟩ ⟨_, (hx403.2 _ _ (hx383.2 _ _ hO371 (jnot_of rfl)) (jnot_of rfl)), hF371_7⟩ ⟨_, (hx403.2 _ _ (hx383.2 _ _ hO371 (jnot_of rfl)) (jnot_of rfl)), hF371_8⟩ (hx403.2 _ _ (hx383.2 _ _ (hx371.2 _ _ haq369_px (jnot_of rfl)) (jnot_of rfl)) (jnot_of rfl)) (hx403.2 _ _ (hx383.2 _ _ (hx371.2 _ _ haq369_py (jnot_of rfl)) (jnot_of rfl)) (jnot_of rfl)) (hx403.2 _ _ (hx383.2 _ _ (hx371.2 _ _ haq369_pz (jnot_of rfl)) (jnot_of rfl)) (jnot_of rfl)) (by omega) (by omega) (by rw [hXN]; omega) (by rw [hXN]; omega) (by rw [hYN]; omega) (by rw [hYN]; omega) (by rw [hZN]; omega) (by rw [hZN]; omega) (by rw [hZN]; by_cases e : x1.toInt = 3; exact Or.inl e; exact Or.inr (hz9 e))) (by omega) (Nat.zero_le _) (Nat.zero_le _) (Nat.le_of_ble_eq_true rfl) (fun r413 V413 h413 => ?_)
  obtain ⟨⟨y413, rfl, hl413, hh413, hP413_0⟩, hE413⟩ := h413
  have hE413 := hE413.symm
  subst hE413
  rw [hXN, hYN, hZN] at hP413_0
  clear hz9
  have K424 : ∀ (t0k424 : Int32), ((y413.toInt = 1 ∧ t0k424.toInt = 1) ∨ (y413.toInt = 0 ∧ t0k424.toInt = 0)) → J tS mX7_counts d 424 [some (.ref a0), some (.int x1), some (.int x2), some (.int y5), some (.int y251), some (.int i5n92), some (.int y168), some (.int y184), some (.int y215), some (.int y231)] [.int t0k424, .int y410, .int y5, .ref rg] V403 0 0 Q := by
    intro  t0k424     hk424_0
    refine J_iadd dX7_counts_424 ?_
    refine Jz_iast (r := ((-2147483648), 2147483647)) he5 jEq.rf hW id dX7_counts_425 (hx403.2 _ _ (hx383.2 _ _ (hx371.2 _ _ haq369_rg (jnot_of rfl)) (jnot_of rfl)) (jnot_of rfl)) rfl rfl (by omega) (by omega) (j_rng _).1 (j_rng _).2 (fun V425 G425 hW hx425 hA425 hp425 ho425 => ?_)
    obtain ⟨hN425, hv425⟩ := WT_rngI (r := ((-2147483648), 2147483647)) hW id rfl hA425
    clear hN425
    have he := he.trans (hx425.sub (jsub_of rfl))
    have hkp := hkp.trans (jkc.of hx425 (jnot_of rfl))
    have hrgN : jHid (((2 ≤ x2.toInt.toNat ∧ jbsd x1.toInt ((y177.toInt + jsx x1.toInt (y108.toInt + 1)), (y193.toInt + jsy x1.toInt (y108.toInt + 1) (y177.toInt + y193.toInt)), (y224.toInt + jsz x1.toInt (y108.toInt + 1)))) ∧ G425 (21 * x1.toInt + x2.toInt).toNat = F24n92 (21 * x1.toInt + x2.toInt).toNat + 1) ∨ (¬ (2 ≤ x2.toInt.toNat ∧ jbsd x1.toInt ((y177.toInt + jsx x1.toInt (y108.toInt + 1)), (y193.toInt + jsy x1.toInt (y108.toInt + 1) (y177.toInt + y193.toInt)), (y224.toInt + jsz x1.toInt (y108.toInt + 1)))) ∧ G425 (21 * x1.toInt + x2.toInt).toNat = F24n92 (21 * x1.toInt + x2.toInt).toNat)) := by
      rcases hk424_0 with ⟨q1, q2⟩ | ⟨q1, q2⟩
      · exact Or.inl ⟨hP413_0.elim (fun q => ⟨by omega, q.2.2⟩) (fun q => absurd q.1 (by omega)), by rw [hp425, hf410, show t0k424 = 1 from jI_inj.mp (q2.trans rfl)]⟩
      · exact Or.inr ⟨hP413_0.elim (fun q => absurd q.1 (by omega)) (fun q z => q.2 ⟨by omega, z.2⟩), by rw [hp425, hf410, show t0k424 = 0 from jI_inj.mp (q2.trans rfl), Int32.add_zero]⟩
    clear hk424_0 hP413_0
    refine J_aload_n dX7_counts_426 rfl ?_
    refine J_get jf_X7_51 dX7_counts_427 (hx425.2 _ _ (hx403.2 _ _ (hx383.2 _ _ hO371 (jnot_of rfl)) (jnot_of rfl)) (jnot_of rfl)) hF371_15 ?_
    refine J_iload_n dX7_counts_430 rfl ?_
    refine J_dup2 dX7_counts_431 rfl rfl ?_
    refine Jz_iald (r := ((-2147483648), 2147483647)) he5 dX7_counts_432 (hx425.2 _ _ (hx403.2 _ _ (hx383.2 _ _ (hx371.2 _ _ haq369_bg (jnot_of rfl)) (jnot_of rfl)) (jnot_of rfl)) (jnot_of rfl)) rfl hv369_bg (by omega) (by omega) (fun y432 hf432 hl432 hh432 => ?_)
    dsimp only at hl432 hh432
    clear hl432 hh432
    refine J_iload dX7_counts_433 rfl ?_
    have K454 : ∀ (t0k454 : Int32), (((0 < (y177.toInt + jsx x1.toInt (y108.toInt + 1)) ∧ jtp (((y177.toInt + jsx x1.toInt (y108.toInt + 1)), (y193.toInt + jsy x1.toInt (y108.toInt + 1) (y177.toInt + y193.toInt)), (y224.toInt + jsz x1.toInt (y108.toInt + 1))) :: (jpl3 (jPf F18n92 F19n92 F20n92) i5n92.toInt.toNat)) = (y177.toInt + jsx x1.toInt (y108.toInt + 1))) ∧ t0k454.toInt = 1) ∨ (¬ (0 < (y177.toInt + jsx x1.toInt (y108.toInt + 1)) ∧ jtp (((y177.toInt + jsx x1.toInt (y108.toInt + 1)), (y193.toInt + jsy x1.toInt (y108.toInt + 1) (y177.toInt + y193.toInt)), (y224.toInt + jsz x1.toInt (y108.toInt + 1))) :: (jpl3 (jPf F18n92 F19n92 F20n92) i5n92.toInt.toNat)) = (y177.toInt + jsx x1.toInt (y108.toInt + 1))) ∧ t0k454.toInt = 0)) → J tS mX7_counts d 454 [some (.ref a0), some (.int x1), some (.int x2), some (.int y5), some (.int y251), some (.int i5n92), some (.int y168), some (.int y184), some (.int y215), some (.int y231)] [.int t0k454, .int y432, .int y5, .ref bg] V425 0 0 Q := by
      intro  t0k454     hk454_0
      refine J_iadd dX7_counts_454 ?_
      refine Jz_iast (r := ((-2147483648), 2147483647)) he5 jEq.rf hW id dX7_counts_455 (hx425.2 _ _ (hx403.2 _ _ (hx383.2 _ _ (hx371.2 _ _ haq369_bg (jnot_of rfl)) (jnot_of rfl)) (jnot_of rfl)) (jnot_of rfl)) rfl rfl (by omega) (by omega) (j_rng _).1 (j_rng _).2 (fun V455 G455 hW hx455 hA455 hp455 ho455 => ?_)
      obtain ⟨hN455, hv455⟩ := WT_rngI (r := ((-2147483648), 2147483647)) hW id rfl hA455
      clear hN455
      have he := he.trans (hx455.sub (jsub_of rfl))
      have hkp := hkp.trans (jkc.of hx455 (jnot_of rfl))
      have hbgN : jHid (((0 < (y177.toInt + jsx x1.toInt (y108.toInt + 1)) ∧ jtp (((y177.toInt + jsx x1.toInt (y108.toInt + 1)), (y193.toInt + jsy x1.toInt (y108.toInt + 1) (y177.toInt + y193.toInt)), (y224.toInt + jsz x1.toInt (y108.toInt + 1))) :: (jpl3 (jPf F18n92 F19n92 F20n92) i5n92.toInt.toNat)) = (y177.toInt + jsx x1.toInt (y108.toInt + 1))) ∧ G455 (21 * x1.toInt + x2.toInt).toNat = F25n92 (21 * x1.toInt + x2.toInt).toNat + 1) ∨ (¬ (0 < (y177.toInt + jsx x1.toInt (y108.toInt + 1)) ∧ jtp (((y177.toInt + jsx x1.toInt (y108.toInt + 1)), (y193.toInt + jsy x1.toInt (y108.toInt + 1) (y177.toInt + y193.toInt)), (y224.toInt + jsz x1.toInt (y108.toInt + 1))) :: (jpl3 (jPf F18n92 F19n92 F20n92) i5n92.toInt.toNat)) = (y177.toInt + jsx x1.toInt (y108.toInt + 1))) ∧ G455 (21 * x1.toInt + x2.toInt).toNat = F25n92 (21 * x1.toInt + x2.toInt).toNat)) := by
        rcases hk454_0 with ⟨q1, q2⟩ | ⟨q1, q2⟩
        · exact Or.inl ⟨q1, by rw [hp455, hf432, show t0k454 = 1 from jI_inj.mp (q2.trans rfl)]⟩
        · exact Or.inr ⟨q1, by rw [hp455, hf432, show t0k454 = 0 from jI_inj.mp (q2.trans rfl), Int32.add_zero]⟩
      clear hk454_0
      refine J_goto (tgt := 485) dX7_counts_456 (by decide) ?_
      refine J_goto (tgt := 92) dX7_counts_485 (by decide) ?_
      have hm0 : (F17n92 i5n92.toInt.toNat).toInt = y108.toInt := e108
      have hm1 : (G111 i5n92.toInt.toNat).toInt = y108.toInt + 1 := by rw [hp111, he110.eq]
      have hoN : jot G383 G403 G425 G455 F23n92 F46n92 F24n92 F25n92 (21 * x1.toInt + x2.toInt).toNat := fun j hj => ⟨ho383 j hj, ho403 j hj, ho425 j hj, ho455 j hj⟩
      have hsN : jac G383 G403 G425 G455 (21 * x1.toInt + x2.toInt).toNat = jscB (2 ≤ x2.toInt.toNat) x1.toInt (((y177.toInt + jsx x1.toInt (y108.toInt + 1)), (y193.toInt + jsy x1.toInt (y108.toInt + 1) (y177.toInt + y193.toInt)), (y224.toInt + jsz x1.toInt (y108.toInt + 1))) :: (jpl3 (jPf F18n92 F19n92 F20n92) i5n92.toInt.toNat)) (jac F23n92 F46n92 F24n92 F25n92 (21 * x1.toInt + x2.toInt).toNat) := jscB_mk (b := 2 ≤ x2.toInt.toNat) (l := ((y177.toInt + jsx x1.toInt (y108.toInt + 1)), (y193.toInt + jsy x1.toInt (y108.toInt + 1) (y177.toInt + y193.toInt)), (y224.toInt + jsz x1.toInt (y108.toInt + 1))) :: (jpl3 (jPf F18n92 F19n92 F20n92) i5n92.toInt.toNat)) rfl hco.1 (by rw [hp383, he382.eq, e380]) hz398.eq hp403 hrgN hbgN
      have hrem2 : 1 ≤ x2.toInt → jrS x1.toInt x2.toInt.toNat i5n92.toInt y251.toInt (jac G383 G403 G425 G455 (21 * x1.toInt + x2.toInt).toNat) G286 G297 G308 G111 := fun _ => hremQ.leaf (by omega) (by rw [e108]; omega) (by rw [e108]; omega) (by rw [hm1, e108]) ho111 (by rw [e108, hPJ]; exact hnin) (by omega) (by rw [he251.eq]; omega) (by rw [e108, hPJ]; exact hsN) hPk
      refine J.mask [true, true, true, true, true, true, false, false, false, false] ?_
      exact ih92 _ y251 i5n92 fs371 G111 G286 G297 G308 G383 G403 G425 G455 F41n92 G360 hW he (((((hbq369_a0.mono hx371.1).mono hx383.1).mono hx403.1).mono hx425.1).mono hx455.1) (((((hbq369_rw.mono hx371.1).mono hx383.1).mono hx403.1).mono hx425.1).mono hx455.1) (((((hbq369_px.mono hx371.1).mono hx383.1).mono hx403.1).mono hx425.1).mono hx455.1) (((((hbq369_py.mono hx371.1).mono hx383.1).mono hx403.1).mono hx425.1).mono hx455.1) (((((hbq369_pz.mono hx371.1).mono hx383.1).mono hx403.1).mono hx425.1).mono hx455.1) (((((hbq369_kn.mono hx371.1).mono hx383.1).mono hx403.1).mono hx425.1).mono hx455.1) (((((hbq369_co.mono hx371.1).mono hx383.1).mono hx403.1).mono hx425.1).mono hx455.1) (((((hbq369_sq.mono hx371.1).mono hx383.1).mono hx403.1).mono hx425.1).mono hx455.1) (((((hbq369_rg.mono hx371.1).mono hx383.1).mono hx403.1).mono hx425.1).mono hx455.1) (((((hbq369_bg.mono hx371.1).mono hx383.1).mono hx403.1).mono hx425.1).mono hx455.1) (((((hbq369_se.mono hx371.1).mono hx383.1).mono hx403.1).mono hx425.1).mono hx455.1) (((((hbq369_hx.mono hx371.1).mono hx383.1).mono hx403.1).mono hx425.1).mono hx455.1) hkp (hx455.2 _ _ (hx425.2 _ _ (hx403.2 _ _ (hx383.2 _ _ hO371 (jnot_of rfl)) (jnot_of rfl)) (jnot_of rfl)) (jnot_of rfl)) hF371_4 hF371_6 hF371_7 hF371_8 hF371_11 hF371_12 hF371_13 hF371_14 hF371_15 hF371_16 hF371_17 (hx455.2 _ _ (hx425.2 _ _ (hx403.2 _ _ (hx383.2 _ _ (hx371.2 _ _ haq369_rw (jnot_of rfl)) (jnot_of rfl)) (jnot_of rfl)) (jnot_of rfl)) (jnot_of rfl)) (hx455.2 _ _ (hx425.2 _ _ (hx403.2 _ _ (hx383.2 _ _ (hx371.2 _ _ haq369_px (jnot_of rfl)) (jnot_of rfl)) (jnot_of rfl)) (jnot_of rfl)) (jnot_of rfl)) (hx455.2 _ _ (hx425.2 _ _ (hx403.2 _ _ (hx383.2 _ _ (hx371.2 _ _ haq369_py (jnot_of rfl)) (jnot_of rfl)) (jnot_of rfl)) (jnot_of rfl)) (jnot_of rfl)) (hx455.2 _ _ (hx425.2 _ _ (hx403.2 _ _ (hx383.2 _ _ (hx371.2 _ _ haq369_pz (jnot_of rfl)) (jnot_of rfl)) (jnot_of rfl)) (jnot_of rfl)) (jnot_of rfl)) (hx455.2 _ _ (hx425.2 _ _ (hx403.2 _ _ hA383 (jnot_of rfl)) (jnot_of rfl)) (jnot_of rfl)) (hx455.2 _ _ (hx425.2 _ _ hA403 (jnot_of rfl)) (jnot_of rfl)) (hx455.2 _ _ hA425 (jnot_of rfl)) hA455 (hx455.2 _ _ (hx425.2 _ _ (hx403.2 _ _ (hx383.2 _ _ (hx371.2 _ _ haq369_se (jnot_of rfl)) (jnot_of rfl)) (jnot_of rfl)) (jnot_of rfl)) (jnot_of rfl)) (hx455.2 _ _ (hx425.2 _ _ (hx403.2 _ _ (hx383.2 _ _ (hx371.2 _ _ hA360 (jnot_of rfl)) (jnot_of rfl)) (jnot_of rfl)) (jnot_of rfl)) (jnot_of rfl)) (hx455.2 _ _ (hx425.2 _ _ (hx403.2 _ _ (hx383.2 _ _ (hx371.2 _ _ haq369_kn (jnot_of rfl)) (jnot_of rfl)) (jnot_of rfl)) (jnot_of rfl)) (jnot_of rfl)) (by (try simp only [he251.eq, true_and, and_true]) <;> omega) (by (try simp only [he251.eq, true_and, and_true]) <;> omega) (fun k hk => by by_cases h9 : (k : Int) = i5n92.toInt; (have e9 : k = i5n92.toInt.toNat := by omega); subst e9; rw [hp111, he110.eq]; omega; rw [ho111 k (by omega)]; exact hrow k (by omega)) (fun k hk => by rw [← hPk k (by omega)]; exact hpl k hk) (fun i k h1 h2 => by rw [← hPk k (by omega), ← hPk i (by omega)]; exact hnd i k h1 h2) (by rw [← jplb_congr (i5n92.toInt + 1).toNat (fun i hi => hPk i (by omega))]; exact hse) (fun k hk => by rw [ho360 k (by omega), ← jpl3_congr k (fun i hi => hPk i (by omega))]; exact hhx k hk) hrem2 (by rw [hp383, he382.eq, he251.eq]; omega) (fun q => absurd q (by omega)) (ho5.trans hoN) (by (try simp only [he251.eq, true_and, and_true]) <;> omega)
    refine Jz_if_le (tgt := 453) he184 dX7_counts_435 (by decide) (fun c435 => ?_) (fun c435 => ?_)
    · refine Jz_iconst 0 dX7_counts_453 (by decide) (fun y453 he453 => ?_)
      exact K454  y453  (by first | exact Or.inl ⟨⟨by omega, by omega⟩, by first | exact he449.eq | omega⟩ | exact Or.inr ⟨fun z => absurd z.1 (by omega), he453.eq⟩ | exact Or.inr ⟨fun z => absurd z.2 (by omega), he453.eq⟩)
    · refine J_aload_n dX7_counts_438 rfl ?_
      refine J_get jf_X7_58 dX7_counts_439 (hx425.2 _ _ (hx403.2 _ _ (hx383.2 _ _ hO371 (jnot_of rfl)) (jnot_of rfl)) (jnot_of rfl)) hF371_17 ?_
      refine J_iload_n dX7_counts_442 rfl ?_
      refine Jz_iald (r := ((-2147483648), 2147483647)) jEq.rf dX7_counts_443 (hx425.2 _ _ (hx403.2 _ _ (hx383.2 _ _ (hx371.2 _ _ hA360 (jnot_of rfl)) (jnot_of rfl)) (jnot_of rfl)) (jnot_of rfl)) rfl hv369_hx (by omega) (by omega) (fun y443 hf443 hl443 hh443 => ?_)
      dsimp only at hl443 hh443
      clear hl443 hh443
      have e443 : y443.toInt = jtp (((y177.toInt + jsx x1.toInt (y108.toInt + 1)), (y193.toInt + jsy x1.toInt (y108.toInt + 1) (y177.toInt + y193.toInt)), (y224.toInt + jsz x1.toInt (y108.toInt + 1))) :: (jpl3 (jPf F18n92 F19n92 F20n92) i5n92.toInt.toNat)) := by rw [← hf443, hN1, show i5n92.toInt.toNat + 1 = (i5n92.toInt + 1).toNat by omega, hp360]; exact hk360_0
      refine J_iload dX7_counts_444 rfl ?_
      refine Jz_icmp_ne (tgt := 453) jEq.rf he184 dX7_counts_446 (by decide) (fun c446 => ?_) (fun c446 => ?_)
      · refine Jz_iconst 0 dX7_counts_453 (by decide) (fun y453 he453 => ?_)
        exact K454  y453  (by first | exact Or.inl ⟨⟨by omega, by omega⟩, by first | exact he449.eq | omega⟩ | exact Or.inr ⟨fun z => absurd z.1 (by omega), he453.eq⟩ | exact Or.inr ⟨fun z => absurd z.2 (by omega), he453.eq⟩)
      · refine Jz_iconst 1 dX7_counts_449 (by decide) (fun y449 he449 => ?_)
        refine J_goto (tgt := 454) dX7_counts_450 (by decide) ?_
        exact K454  y449  (by first | exact Or.inl ⟨⟨by omega, by omega⟩, by first | exact he449.eq | omega⟩ | exact Or.inr ⟨fun z => absurd z.1 (by omega), he453.eq⟩ | exact Or.inr ⟨fun z => absurd z.2 (by omega), he453.eq⟩)
  refine Jz_if_eq (tgt := 423) jEq.rf dX7_counts_416 (by decide) (fun c416 => ?_) (fun c416 => ?_)
  · refine Jz_iconst 0 dX7_counts_423 (by decide) (fun y423 he423 => ?_)
    exact K424  y423  (by (try simp only [he423.eq, true_and, and_true]) <;> omega)
  · refine Jz_iconst 1 dX7_counts_419 (by decide) (fun y419 he419 => ?_)
    refine J_goto (tgt := 424) dX7_counts_420 (by decide) ?_
    exact K424  y419  (by (try simp only [he419.eq, true_and, and_true]) <;> omega)
set_option maxRecDepth 100000 in
set_option maxHeartbeats 8000000 in
theorem w_X7_counts_z_s276 {tS : jTS} (d : Nat) (V0 : jH) (a0 : Nat) (x1 : Int32) (x2 : Int32) (rw : Nat) (px : Nat) (py : Nat) (pz : Nat) (kn : Nat) (co : Nat) (sq : Nat) (rg : Nat) (bg : Nat) (se : Nat) (hx : Nat) (RW : Nat → Int32) (PX : Nat → Int32) (PY : Nat → Int32) (PZ : Nat → Int32) (KN : Nat → Int32) (CO : Nat → Int32) (SQ : Nat → Int64) (RG : Nat → Int32) (BG : Nat → Int32) (SE : Nat → Int32) (HX : Nat → Int32) (Q : Option Value → jH → Prop) (N : Nat) (i4n92 : Int32) (i5n92 : Int32) (gs92a0 : List Value) (F17n92 : Nat → Int32) (F18n92 : Nat → Int32) (F19n92 : Nat → Int32) (F20n92 : Nat → Int32) (F23n92 : Nat → Int32) (F46n92 : Nat → Int64) (F24n92 : Nat → Int32) (F25n92 : Nat → Int32) (F41n92 : Nat → Int32) (F26n92 : Nat → Int32) (y5 : Int32) (y251 : Int32) (y168 : Int32) (y184 : Int32) (y215 : Int32) (y231 : Int32) (y108 : Int32) (y110 : Int32) (y177 : Int32) (y193 : Int32) (y224 : Int32) (V111 : jH) (G23 : Nat → Int32) (G111 : Nat → Int32) (hQ : ∀ (r : Option Value) (V : jH), (fun r V => (jPost [.inr 5, .inl 40, .inl 23, .inl 17, .inl 18, .inl 19, .inl 20, .inl 41, .inl 26, .inl 46, .inl 24, .inl 25] V0 rV) r V ∧ (∃ (KN2 CO2 : Nat → Int32) (SQ2 : Nat → Int64) (RG2 BG2 SE2 : Nat → Int32), V kn = some (.inl (40, 84, .inl KN2)) ∧ V co = some (.inl (23, 84, .inl CO2)) ∧ V sq = some (.inl (46, 84, .inr (.inl SQ2))) ∧ V rg = some (.inl (24, 84, .inl RG2)) ∧ V bg = some (.inl (25, 84, .inl BG2)) ∧ V se = some (.inl (41, 79507, .inl SE2)) ∧ jsn SE2 [] ∧ (KN2 (21 * x1.toInt + x2.toInt).toNat).toInt = 1 ∧ jmk x1.toInt x2.toInt.toNat CO2 SQ2 RG2 BG2 (21 * x1.toInt + x2.toInt).toNat ∧ (∀ j : Nat, j ≠ (21 * x1.toInt + x2.toInt).toNat → KN2 j = KN j) ∧ jot CO2 SQ2 RG2 BG2 CO SQ RG BG (21 * x1.toInt + x2.toInt).toNat) ∧ jkc 5 [0, 23, 24] V0 V) r V → Q r V) (hm : ((600001 - i4n92.toInt) * 1000 + (i5n92.toInt + 1) * 10 + (7 - (F17n92 i5n92.toInt.toNat).toInt)).toNat < N + 1) (hall : 0 ≤ i4n92.toInt ∧ i4n92.toInt ≤ 600000) (hrow : ∀ k : Nat, (k : Int) ≤ i5n92.toInt → -1 ≤ (F17n92 k).toInt ∧ (F17n92 k).toInt < jdir x1.toInt) (hpl : ∀ k : Nat, (k : Int) ≤ i5n92.toInt → jnb x1.toInt k (jPf F18n92 F19n92 F20n92 k)) (hnd : ∀ i k : Nat, i < k → (k : Int) ≤ i5n92.toInt → ¬ jPf F18n92 F19n92 F20n92 k = jPf F18n92 F19n92 F20n92 i) (hse : jsn F41n92 (jplb (jPf F18n92 F19n92 F20n92) (i5n92.toInt + 1).toNat)) (hhx : ∀ k : Nat, (k : Int) ≤ i5n92.toInt → (F26n92 k).toInt = jtp (jpl3 (jPf F18n92 F19n92 F20n92) k)) (hco : 0 ≤ (F23n92 (21 * x1.toInt + x2.toInt).toNat).toInt ∧ (F23n92 (21 * x1.toInt + x2.toInt).toNat).toInt ≤ i4n92.toInt + 1) (ho5 : jot F23n92 F46n92 F24n92 F25n92 CO SQ RG BG (21 * x1.toInt + x2.toInt).toNat) (ih92 : ∀ (V : jH) (i4n92 : Int32) (i5n92 : Int32) (gs92a0 : List Value) (F17n92 : Nat → Int32) (F18n92 : Nat → Int32) (F19n92 : Nat → Int32) (F20n92 : Nat → Int32) (F23n92 : Nat → Int32) (F46n92 : Nat → Int64) (F24n92 : Nat → Int32) (F25n92 : Nat → Int32) (F41n92 : Nat → Int32) (F26n92 : Nat → Int32), WT V → jeff [.inr 5, .inl 40, .inl 23, .inl 17, .inl 18, .inl 19, .inl 20, .inl 41, .inl 26, .inl 46, .inl 24, .inl 25] V0 V → (jis V (.inr 5) a0) → (jis V (.inl 17) rw) → (jis V (.inl 18) px) → (jis V (.inl 19) py) → (jis V (.inl 20) pz) → (jis V (.inl 40) kn) → (jis V (.inl 23) co) → (jis V (.inl 46) sq) → (jis V (.inl 24) rg) → (jis V (.inl 25) bg) → (jis V (.inl 41) se) → (jis V (.inl 26) hx) → (jkc 5 [0, 23, 24] V0 V) → (V a0 = some (.inr (5, gs92a0))) → (gs92a0[4]? = some (.ref rw)) → (gs92a0[6]? = some (.ref px)) → (gs92a0[7]? = some (.ref py)) → (gs92a0[8]? = some (.ref pz)) → (gs92a0[11]? = some (.ref kn)) → (gs92a0[12]? = some (.ref co)) → (gs92a0[13]? = some (.ref sq)) → (gs92a0[14]? = some (.ref rg)) → (gs92a0[15]? = some (.ref bg)) → (gs92a0[16]? = some (.ref se)) → (gs92a0[17]? = some (.ref hx)) → (V rw = some (.inl (17, 120, .inl F17n92))) → (V px = some (.inl (18, 121, .inl F18n92))) → (V py = some (.inl (19, 121, .inl F19n92))) → (V pz = some (.inl (20, 121, .inl F20n92))) → (V co = some (.inl (23, 84, .inl F23n92))) → (V sq = some (.inl (46, 84, .inr (.inl F46n92)))) → (V rg = some (.inl (24, 84, .inl F24n92))) → (V bg = some (.inl (25, 84, .inl F25n92))) → (V se = some (.inl (41, 79507, .inl F41n92))) → (V hx = some (.inl (26, 22, .inl F26n92))) → (V kn = some (.inl (40, 84, .inl G23))) → (-1 ≤ i5n92.toInt ∧ i5n92.toInt ≤ 19 ∧ (i5n92.toInt < x2.toInt ∨ x2.toInt = 0)) → (0 ≤ i4n92.toInt ∧ i4n92.toInt ≤ 600000) → (∀ k : Nat, (k : Int) ≤ i5n92.toInt → -1 ≤ (F17n92 k).toInt ∧ (F17n92 k).toInt < jdir x1.toInt) → (∀ k : Nat, (k : Int) ≤ i5n92.toInt → jnb x1.toInt k (jPf F18n92 F19n92 F20n92 k)) → (∀ i k : Nat, i < k → (k : Int) ≤ i5n92.toInt → ¬ jPf F18n92 F19n92 F20n92 k = jPf F18n92 F19n92 F20n92 i) → (jsn F41n92 (jplb (jPf F18n92 F19n92 F20n92) (i5n92.toInt + 1).toNat)) → (∀ k : Nat, (k : Int) ≤ i5n92.toInt → (F26n92 k).toInt = jtp (jpl3 (jPf F18n92 F19n92 F20n92) k)) → (1 ≤ x2.toInt → jrS x1.toInt x2.toInt.toNat i5n92.toInt i4n92.toInt (jac F23n92 F46n92 F24n92 F25n92 (21 * x1.toInt + x2.toInt).toNat) F18n92 F19n92 F20n92 F17n92) → (0 ≤ (F23n92 (21 * x1.toInt + x2.toInt).toNat).toInt ∧ (F23n92 (21 * x1.toInt + x2.toInt).toNat).toInt ≤ i4n92.toInt + 1) → (x2.toInt = 0 → (F23n92 (21 * x1.toInt + x2.toInt).toNat).toInt = 1 ∧ F46n92 (21 * x1.toInt + x2.toInt).toNat = 0 ∧ F24n92 (21 * x1.toInt + x2.toInt).toNat = 0 ∧ F25n92 (21 * x1.toInt + x2.toInt).toNat = 0 ∧ i5n92.toInt = 0) → (jot F23n92 F46n92 F24n92 F25n92 CO SQ RG BG (21 * x1.toInt + x2.toInt).toNat) → ((600001 - i4n92.toInt) * 1000 + (i5n92.toInt + 1) * 10 + (7 - (F17n92 i5n92.toInt.toNat).toInt)).toNat < N → J tS mX7_counts d 92 [some (.ref a0), some (.int x1), some (.int x2), some (.int y5), some (.int i4n92), some (.int i5n92), none, none, none, none] [] V 0 0 Q) (hd : 2 ≤ d) (hp0 : 0 ≤ x1.toInt) (hp1 : x1.toInt ≤ 3) (hp2 : 0 ≤ x2.toInt) (hp3 : x2.toInt ≤ 20) (hp4 : jsn SE []) (hp5 : jmo x1.toInt x2.toInt.toNat KN CO SQ RG BG (21 * x1.toInt + x2.toInt).toNat) (hW : WT V111) (he : jeff [.inr 5, .inl 40, .inl 23, .inl 17, .inl 18, .inl 19, .inl 20, .inl 41, .inl 26, .inl 46, .inl 24, .inl 25] V0 V111) (hkp : jkc 5 [0, 23, 24] V0 V111) (hbq276_a0 : jis V111 (.inr 5) a0) (hbq276_rw : jis V111 (.inl 17) rw) (hbq276_px : jis V111 (.inl 18) px) (hbq276_py : jis V111 (.inl 19) py) (hbq276_pz : jis V111 (.inl 20) pz) (hbq276_kn : jis V111 (.inl 40) kn) (hbq276_co : jis V111 (.inl 23) co) (hbq276_sq : jis V111 (.inl 46) sq) (hbq276_rg : jis V111 (.inl 24) rg) (hbq276_bg : jis V111 (.inl 25) bg) (hbq276_se : jis V111 (.inl 41) se) (hbq276_hx : jis V111 (.inl 26) hx) (hOq276_a0 : V111 a0 = some (.inr (5, gs92a0))) (hKq276_a0 : jokO V111 (jFs 5) gs92a0) (hFgs92a0_4 : gs92a0[4]? = some (.ref rw)) (hFgs92a0_6 : gs92a0[6]? = some (.ref px)) (hFgs92a0_7 : gs92a0[7]? = some (.ref py)) (hFgs92a0_8 : gs92a0[8]? = some (.ref pz)) (hFgs92a0_11 : gs92a0[11]? = some (.ref kn)) (hFgs92a0_12 : gs92a0[12]? = some (.ref co)) (hFgs92a0_13 : gs92a0[13]? = some (.ref sq)) (hFgs92a0_14 : gs92a0[14]? = some (.ref rg)) (hFgs92a0_15 : gs92a0[15]? = some (.ref bg)) (hFgs92a0_16 : gs92a0[16]? = some (.ref se)) (hFgs92a0_17 : gs92a0[17]? = some (.ref hx)) (haq276_px : V111 px = some (.inl (18, 121, .inl F18n92))) (haq276_py : V111 py = some (.inl (19, 121, .inl F19n92))) (haq276_pz : V111 pz = some (.inl (20, 121, .inl F20n92))) (haq276_co : V111 co = some (.inl (23, 84, .inl F23n92))) (haq276_sq : V111 sq = some (.inl (46, 84, .inr (.inl F46n92)))) (haq276_rg : V111 rg = some (.inl (24, 84, .inl F24n92))) (haq276_bg : V111 bg = some (.inl (25, 84, .inl F25n92))) (haq276_se : V111 se = some (.inl (41, 79507, .inl F41n92))) (haq276_hx : V111 hx = some (.inl (26, 22, .inl F26n92))) (haq276_kn : V111 kn = some (.inl (40, 84, .inl G23))) (hA111 : V111 rw = some (.inl (17, 120, .inl G111))) (he5 : jEq y5.toInt ((21) * (x1.toInt) + x2.toInt)) (he251 : jEq y251.toInt (i4n92.toInt + 1)) (he168 : jEq y168.toInt (y108.toInt + 1)) (he184 : jEq y184.toInt (y177.toInt + (jsx (x1.toInt) (y108.toInt + 1)))) (he215 : jEq y215.toInt (y193.toInt + (jsy (x1.toInt) (y108.toInt + 1) (y177.toInt + y193.toInt)))) (he231 : jEq y231.toInt (y224.toInt + (jsz (x1.toInt) (y108.toInt + 1)))) (he110 : jEq y110.toInt (y108.toInt + 1)) (hjb : 3 ≤ jdir x1.toInt ∧ jdir x1.toInt ≤ 6) (hdx : i5n92.toInt < x2.toInt) (hd19 : i5n92.toInt ≤ 19) (hremQ : jrS x1.toInt x2.toInt.toNat i5n92.toInt i4n92.toInt (jac F23n92 F46n92 F24n92 F25n92 (21 * x1.toInt + x2.toInt).toNat) F18n92 F19n92 F20n92 F17n92) (c94 : ¬ i5n92.toInt < 0) (c98 : ¬ x2.toInt ≤ 0) (hb108 : -1 ≤ y108.toInt ∧ y108.toInt < jdir x1.toInt) (e108 : (F17n92 i5n92.toInt.toNat).toInt = y108.toInt) (hp111 : G111 i5n92.toInt.toNat = y110) (ho111 : ∀ k : Nat, k ≠ i5n92.toInt.toNat → G111 k = F17n92 k) (c123 : ¬ y108.toInt + 1 = jdir x1.toInt) (hq0 : jnb x1.toInt i5n92.toInt.toNat ((jPf F18n92 F19n92 F20n92) i5n92.toInt.toNat)) (e177 : (F18n92 i5n92.toInt.toNat).toInt = y177.toInt) (e193 : (F19n92 i5n92.toInt.toNat).toInt = y193.toInt) (e224 : (F20n92 i5n92.toInt.toNat).toInt = y224.toInt) (hbnd : (-i5n92.toInt ≤ y177.toInt ∧ y177.toInt ≤ i5n92.toInt) ∧ (-i5n92.toInt ≤ y193.toInt ∧ y193.toInt ≤ i5n92.toInt) ∧ (-i5n92.toInt ≤ y224.toInt ∧ y224.toInt ≤ i5n92.toInt)) (hbsx : -1 ≤ jsx x1.toInt (y108.toInt + 1) ∧ jsx x1.toInt (y108.toInt + 1) ≤ 1) (hbsy : -1 ≤ jsy x1.toInt (y108.toInt + 1) (y177.toInt + y193.toInt) ∧ jsy x1.toInt (y108.toInt + 1) (y177.toInt + y193.toInt) ≤ 1) (hbsz : -1 ≤ jsz x1.toInt (y108.toInt + 1) ∧ jsz x1.toInt (y108.toInt + 1) ≤ 1) (c258 : i4n92.toInt + 1 ≤ 600000) (hPJ : jnx x1.toInt (y108.toInt + 1) ((jPf F18n92 F19n92 F20n92) i5n92.toInt.toNat) = ((y177.toInt + jsx x1.toInt (y108.toInt + 1)), (y193.toInt + jsy x1.toInt (y108.toInt + 1) (y177.toInt + y193.toInt)), (y224.toInt + jsz x1.toInt (y108.toInt + 1)))) (hnbN : jnb x1.toInt (i5n92.toInt.toNat + 1) ((y177.toInt + jsx x1.toInt (y108.toInt + 1)), (y193.toInt + jsy x1.toInt (y108.toInt + 1) (y177.toInt + y193.toInt)), (y224.toInt + jsz x1.toInt (y108.toInt + 1)))) (hbxN : jbx ((y177.toInt + jsx x1.toInt (y108.toInt + 1)), (y193.toInt + jsy x1.toInt (y108.toInt + 1) (y177.toInt + y193.toInt)), (y224.toInt + jsz x1.toInt (y108.toInt + 1)))) (hsb : 0 ≤ jspot ((y177.toInt + jsx x1.toInt (y108.toInt + 1)), (y193.toInt + jsy x1.toInt (y108.toInt + 1) (y177.toInt + y193.toInt)), (y224.toInt + jsz x1.toInt (y108.toInt + 1))) ∧ jspot ((y177.toInt + jsx x1.toInt (y108.toInt + 1)), (y193.toInt + jsy x1.toInt (y108.toInt + 1) (y177.toInt + y193.toInt)), (y224.toInt + jsz x1.toInt (y108.toInt + 1))) ≤ 79506) (hnin : ¬ ((y177.toInt + jsx x1.toInt (y108.toInt + 1)), (y193.toInt + jsy x1.toInt (y108.toInt + 1) (y177.toInt + y193.toInt)), (y224.toInt + jsz x1.toInt (y108.toInt + 1))) ∈ (jpl3 (jPf F18n92 F19n92 F20n92) i5n92.toInt.toNat)) (htp : jEq (jtp (((y177.toInt + jsx x1.toInt (y108.toInt + 1)), (y193.toInt + jsy x1.toInt (y108.toInt + 1) (y177.toInt + y193.toInt)), (y224.toInt + jsz x1.toInt (y108.toInt + 1))) :: (jpl3 (jPf F18n92 F19n92 F20n92) i5n92.toInt.toNat))) (if (y177.toInt + jsx x1.toInt (y108.toInt + 1)) ≤ 0 ∨ jtp (jpl3 (jPf F18n92 F19n92 F20n92) i5n92.toInt.toNat) < 0 then -1 else if jtp (jpl3 (jPf F18n92 F19n92 F20n92) i5n92.toInt.toNat) < (y177.toInt + jsx x1.toInt (y108.toInt + 1)) then (y177.toInt + jsx x1.toInt (y108.toInt + 1)) else jtp (jpl3 (jPf F18n92 F19n92 F20n92) i5n92.toInt.toNat))) : J tS mX7_counts d 276 [some (.ref a0), some (.int x1), some (.int x2), some (.int y5), some (.int y251), some (.int i5n92), some (.int y168), some (.int y184), some (.int y215), some (.int y231)] [] V111 0 0 Q := by
  obtain ⟨hN9, hv276_px⟩ := WT_rngI (r := ((-2147483648), 2147483647)) hW id rfl haq276_px
  clear hN9
  obtain ⟨hN9, hv276_py⟩ := WT_rngI (r := ((-2147483648), 2147483647)) hW id rfl haq276_py
  clear hN9
  obtain ⟨hN9, hv276_pz⟩ := WT_rngI (r := ((-2147483648), 2147483647)) hW id rfl haq276_pz
  clear hN9
  obtain ⟨hN9, hv276_co⟩ := WT_rngI (r := ((-2147483648), 2147483647)) hW id rfl haq276_co
  clear hN9
  obtain ⟨hN9, hv276_rg⟩ := WT_rngI (r := ((-2147483648), 2147483647)) hW id rfl haq276_rg
  clear hN9
  obtain ⟨hN9, hv276_bg⟩ := WT_rngI (r := ((-2147483648), 2147483647)) hW id rfl haq276_bg
  clear hN9
  obtain ⟨hN9, hv276_se⟩ := WT_rngI (r := (0, 1)) hW id rfl haq276_se
  clear hN9
  obtain ⟨hN9, hv276_hx⟩ := WT_rngI (r := ((-2147483648), 2147483647)) hW id rfl haq276_hx
  clear hN9
  obtain ⟨hN9, hv276_kn⟩ := WT_rngI (r := (0, 1)) hW id rfl haq276_kn
  clear hN9
  obtain ⟨hN9, hv276_rw⟩ := WT_rngI (r := ((-2147483648), 2147483647)) hW id rfl hA111
  clear hN9
  refine J_aload_n dX7_counts_276 rfl ?_
  refine J_get jf_X7_22 dX7_counts_277 hOq276_a0 hFgs92a0_6 ?_
  refine J_iload dX7_counts_280 rfl ?_
  refine Jz_iconst 1 dX7_counts_282 (by decide) (fun y282 he282 => ?_)
  refine Jz_iadd jEq.rf he282 dX7_counts_283 (by omega) (by omega) (fun y283 he283 => ?_)
  refine J_iload dX7_counts_284 rfl ?_
  refine Jz_iast (r := ((-2147483648), 2147483647)) he283 he184 hW id dX7_counts_286 haq276_px rfl rfl (by omega) (by omega) (by omega) (by omega) (fun V286 G286 hW hx286 hA286 hp286 ho286 => ?_)
  obtain ⟨hN286, hv286⟩ := WT_rngI (r := ((-2147483648), 2147483647)) hW id rfl hA286
  clear hN286
  have he := he.trans (hx286.sub (jsub_of rfl))
  have hkp := hkp.trans (jkc.of hx286 (jnot_of rfl))
  refine J_aload_n dX7_counts_287 rfl ?_
  refine J_get jf_X7_25 dX7_counts_288 (hx286.2 _ _ hOq276_a0 (jnot_of rfl)) hFgs92a0_7 ?_
  refine J_iload dX7_counts_291 rfl ?_
  refine Jz_iconst 1 dX7_counts_293 (by decide) (fun y293 he293 => ?_)
  refine Jz_iadd jEq.rf he293 dX7_counts_294 (by omega) (by omega) (fun y294 he294 => ?_)
  refine J_iload dX7_counts_295 rfl ?_
  refine Jz_iast (r := ((-2147483648), 2147483647)) he294 he215 hW id dX7_counts_297 (hx286.2 _ _ haq276_py (jnot_of rfl)) rfl rfl (by omega) (by omega) (by omega) (by omega) (fun V297 G297 hW hx297 hA297 hp297 ho297 => ?_)
  obtain ⟨hN297, hv297⟩ := WT_rngI (r := ((-2147483648), 2147483647)) hW id rfl hA297
  clear hN297
  have he := he.trans (hx297.sub (jsub_of rfl))
  have hkp := hkp.trans (jkc.of hx297 (jnot_of rfl))
  refine J_aload_n dX7_counts_298 rfl ?_
  refine J_get jf_X7_28 dX7_counts_299 (hx297.2 _ _ (hx286.2 _ _ hOq276_a0 (jnot_of rfl)) (jnot_of rfl)) hFgs92a0_8 ?_
  refine J_iload dX7_counts_302 rfl ?_
  refine Jz_iconst 1 dX7_counts_304 (by decide) (fun y304 he304 => ?_)
  refine Jz_iadd jEq.rf he304 dX7_counts_305 (by omega) (by omega) (fun y305 he305 => ?_)
  refine J_iload dX7_counts_306 rfl ?_
  refine Jz_iast (r := ((-2147483648), 2147483647)) he305 he231 hW id dX7_counts_308 (hx297.2 _ _ (hx286.2 _ _ haq276_pz (jnot_of rfl)) (jnot_of rfl)) rfl rfl (by omega) (by omega) (by omega) (by omega) (fun V308 G308 hW hx308 hA308 hp308 ho308 => ?_)
  obtain ⟨hN308, hv308⟩ := WT_rngI (r := ((-2147483648), 2147483647)) hW id rfl hA308
  clear hN308
  have he := he.trans (hx308.sub (jsub_of rfl))
  have hkp := hkp.trans (jkc.of hx308 (jnot_of rfl))
  have hPk : ∀ k : Nat, k ≤ i5n92.toInt.toNat → (jPf F18n92 F19n92 F20n92) k = jPf G286 G297 G308 k := fun k hk => by unfold jPf; rw [ho286 k (by omega), ho297 k (by omega), ho308 k (by omega)]
  have hPN : jPf G286 G297 G308 (i5n92.toInt.toNat + 1) = ((y177.toInt + jsx x1.toInt (y108.toInt + 1)), (y193.toInt + jsy x1.toInt (y108.toInt + 1) (y177.toInt + y193.toInt)), (y224.toInt + jsz x1.toInt (y108.toInt + 1))) := by unfold jPf; rw [show i5n92.toInt.toNat + 1 = (i5n92.toInt + 1).toNat by omega, hp286, hp297, hp308, he184.eq, he215.eq, he231.eq]
  refine J_aload_n dX7_counts_309 rfl ?_
  refine J_get jf_X7_58 dX7_counts_310 (hx308.2 _ _ (hx297.2 _ _ (hx286.2 _ _ hOq276_a0 (jnot_of rfl)) (jnot_of rfl)) (jnot_of rfl)) hFgs92a0_17 ?_
  refine J_iload dX7_counts_313 rfl ?_
  refine Jz_iconst 1 dX7_counts_315 (by decide) (fun y315 he315 => ?_)
  refine Jz_iadd jEq.rf he315 dX7_counts_316 (by omega) (by omega) (fun y316 he316 => ?_)
  refine J_iload dX7_counts_317 rfl ?_
  have K360 : ∀ (t0k360 : Int32), (t0k360.toInt = jtp (((y177.toInt + jsx x1.toInt (y108.toInt + 1)), (y193.toInt + jsy x1.toInt (y108.toInt + 1) (y177.toInt + y193.toInt)), (y224.toInt + jsz x1.toInt (y108.toInt + 1))) :: (jpl3 (jPf F18n92 F19n92 F20n92) i5n92.toInt.toNat))) → J tS mX7_counts d 360 [some (.ref a0), some (.int x1), some (.int x2), some (.int y5), some (.int y251), some (.int i5n92), some (.int y168), some (.int y184), some (.int y215), some (.int y231)] [.int t0k360, .int y316, .ref hx] V308 0 0 Q := by
    intro  t0k360     hk360_0
    refine Jz_iast (r := ((-2147483648), 2147483647)) he316 jEq.rf hW id dX7_counts_360 (hx308.2 _ _ (hx297.2 _ _ (hx286.2 _ _ haq276_hx (jnot_of rfl)) (jnot_of rfl)) (jnot_of rfl)) rfl rfl (by omega) (by omega) (j_rng _).1 (j_rng _).2 (fun V360 G360 hW hx360 hA360 hp360 ho360 => ?_)
    obtain ⟨hN360, hv360⟩ := WT_rngI (r := ((-2147483648), 2147483647)) hW id rfl hA360
    clear hN360
    have he := he.trans (hx360.sub (jsub_of rfl))
    have hkp := hkp.trans (jkc.of hx360 (jnot_of rfl))
    refine J_iload dX7_counts_361 rfl ?_
    refine Jz_iconst 1 dX7_counts_363 (by decide) (fun y363 he363 => ?_)
    refine Jz_iadd jEq.rf he363 dX7_counts_364 (by omega) (by omega) (fun y364 he364 => ?_)
    refine J_iload_n dX7_counts_365 rfl ?_
    refine Jz_icmp_ne (tgt := 459) he364 jEq.rf dX7_counts_366 (by decide) (fun c366 => ?_) (fun c366 => ?_)
    · have hbq459_a0 : jis V360 (.inr 5) a0 := ((((hbq276_a0.mono hx286.1).mono hx297.1).mono hx308.1).mono hx360.1)
      have hbq459_rw : jis V360 (.inl 17) rw := ((((hbq276_rw.mono hx286.1).mono hx297.1).mono hx308.1).mono hx360.1)
      have hbq459_px : jis V360 (.inl 18) px := ((((hbq276_px.mono hx286.1).mono hx297.1).mono hx308.1).mono hx360.1)
      have hbq459_py : jis V360 (.inl 19) py := ((((hbq276_py.mono hx286.1).mono hx297.1).mono hx308.1).mono hx360.1)
      have hbq459_pz : jis V360 (.inl 20) pz := ((((hbq276_pz.mono hx286.1).mono hx297.1).mono hx308.1).mono hx360.1)
      have hbq459_kn : jis V360 (.inl 40) kn := ((((hbq276_kn.mono hx286.1).mono hx297.1).mono hx308.1).mono hx360.1)
      have hbq459_co : jis V360 (.inl 23) co := ((((hbq276_co.mono hx286.1).mono hx297.1).mono hx308.1).mono hx360.1)
      have hbq459_sq : jis V360 (.inl 46) sq := ((((hbq276_sq.mono hx286.1).mono hx297.1).mono hx308.1).mono hx360.1)
      have hbq459_rg : jis V360 (.inl 24) rg := ((((hbq276_rg.mono hx286.1).mono hx297.1).mono hx308.1).mono hx360.1)
      have hbq459_bg : jis V360 (.inl 25) bg := ((((hbq276_bg.mono hx286.1).mono hx297.1).mono hx308.1).mono hx360.1)
      have hbq459_se : jis V360 (.inl 41) se := ((((hbq276_se.mono hx286.1).mono hx297.1).mono hx308.1).mono hx360.1)
      have hbq459_hx : jis V360 (.inl 26) hx := ((((hbq276_hx.mono hx286.1).mono hx297.1).mono hx308.1).mono hx360.1)
      have hOq459_a0 : V360 a0 = some (.inr (5, gs92a0)) := (hx360.2 _ _ (hx308.2 _ _ (hx297.2 _ _ (hx286.2 _ _ hOq276_a0 (jnot_of rfl)) (jnot_of rfl)) (jnot_of rfl)) (jnot_of rfl))
      have hKq459_a0 : jokO V360 (jFs 5) gs92a0 := ((((hKq276_a0.mono hx286.1).mono hx297.1).mono hx308.1).mono hx360.1)
      have haq459_co := (hx360.2 _ _ (hx308.2 _ _ (hx297.2 _ _ (hx286.2 _ _ haq276_co (jnot_of rfl)) (jnot_of rfl)) (jnot_of rfl)) (jnot_of rfl))
      have haq459_sq := (hx360.2 _ _ (hx308.2 _ _ (hx297.2 _ _ (hx286.2 _ _ haq276_sq (jnot_of rfl)) (jnot_of rfl)) (jnot_of rfl)) (jnot_of rfl))
      have haq459_rg := (hx360.2 _ _ (hx308.2 _ _ (hx297.2 _ _ (hx286.2 _ _ haq276_rg (jnot_of rfl)) (jnot_of rfl)) (jnot_of rfl)) (jnot_of rfl))
      have haq459_bg := (hx360.2 _ _ (hx308.2 _ _ (hx297.2 _ _ (hx286.2 _ _ haq276_bg (jnot_of rfl)) (jnot_of rfl)) (jnot_of rfl)) (jnot_of rfl))
      have haq459_se := (hx360.2 _ _ (hx308.2 _ _ (hx297.2 _ _ (hx286.2 _ _ haq276_se (jnot_of rfl)) (jnot_of rfl)) (jnot_of rfl)) (jnot_of rfl))
      have haq459_kn := (hx360.2 _ _ (hx308.2 _ _ (hx297.2 _ _ (hx286.2 _ _ haq276_kn (jnot_of rfl)) (jnot_of rfl)) (jnot_of rfl)) (jnot_of rfl))
      have haq459_rw := (hx360.2 _ _ (hx308.2 _ _ (hx297.2 _ _ (hx286.2 _ _ hA111 (jnot_of rfl)) (jnot_of rfl)) (jnot_of rfl)) (jnot_of rfl))
      have haq459_px := (hx360.2 _ _ (hx308.2 _ _ (hx297.2 _ _ hA286 (jnot_of rfl)) (jnot_of rfl)) (jnot_of rfl))
      have haq459_py := (hx360.2 _ _ (hx308.2 _ _ hA297 (jnot_of rfl)) (jnot_of rfl))
      have haq459_pz := (hx360.2 _ _ hA308 (jnot_of rfl))
      exact w_X7_counts_z_s459 d V0 a0 x1 x2 rw px py pz kn co sq rg bg se hx RW PX PY PZ KN CO SQ RG BG SE HX Q N i4n92 i5n92 gs92a0 F17n92 F18n92 F19n92 F20n92 F23n92 F46n92 F24n92 F25n92 F41n92 F26n92 y5 y251 y168 y184 y215 y231 y108 y110 y177 y193 y224 t0k360 V360 G23 G111 G286 G297 G308 G360 hQ hm hall hrow hpl hnd hse hhx hco ho5 ih92 hd hp0 hp1 hp2 hp3 hp4 hp5 hW he hkp hbq459_a0 hbq459_rw hbq459_px hbq459_py hbq459_pz hbq459_kn hbq459_co hbq459_sq hbq459_rg hbq459_bg hbq459_se hbq459_hx hOq459_a0 hKq459_a0 hFgs92a0_4 hFgs92a0_6 hFgs92a0_7 hFgs92a0_8 hFgs92a0_11 hFgs92a0_12 hFgs92a0_13 hFgs92a0_14 hFgs92a0_15 hFgs92a0_16 hFgs92a0_17 haq459_co haq459_sq haq459_rg haq459_bg haq459_se haq459_kn haq459_rw haq459_px haq459_py haq459_pz hA360 he5 he251 he168 he184 he215 he231 he110 hjb hdx hd19 hremQ c94 c98 hb108 e108 hp111 ho111 c123 hq0 e177 e193 e224 hbnd hbsx hbsy hbsz c258 hPJ hnbN hbxN hsb hnin hPk hPN hk360_0 hp360 ho360 c366
    · have hbq369_a0 : jis V360 (.inr 5) a0 := ((((hbq276_a0.mono hx286.1).mono hx297.1).mono hx308.1).mono hx360.1)
      have hbq369_rw : jis V360 (.inl 17) rw := ((((hbq276_rw.mono hx286.1).mono hx297.1).mono hx308.1).mono hx360.1)
      have hbq369_px : jis V360 (.inl 18) px := ((((hbq276_px.mono hx286.1).mono hx297.1).mono hx308.1).mono hx360.1)
      have hbq369_py : jis V360 (.inl 19) py := ((((hbq276_py.mono hx286.1).mono hx297.1).mono hx308.1).mono hx360.1)
      have hbq369_pz : jis V360 (.inl 20) pz := ((((hbq276_pz.mono hx286.1).mono hx297.1).mono hx308.1).mono hx360.1)
      have hbq369_kn : jis V360 (.inl 40) kn := ((((hbq276_kn.mono hx286.1).mono hx297.1).mono hx308.1).mono hx360.1)
      have hbq369_co : jis V360 (.inl 23) co := ((((hbq276_co.mono hx286.1).mono hx297.1).mono hx308.1).mono hx360.1)
      have hbq369_sq : jis V360 (.inl 46) sq := ((((hbq276_sq.mono hx286.1).mono hx297.1).mono hx308.1).mono hx360.1)
      have hbq369_rg : jis V360 (.inl 24) rg := ((((hbq276_rg.mono hx286.1).mono hx297.1).mono hx308.1).mono hx360.1)
      have hbq369_bg : jis V360 (.inl 25) bg := ((((hbq276_bg.mono hx286.1).mono hx297.1).mono hx308.1).mono hx360.1)
      have hbq369_se : jis V360 (.inl 41) se := ((((hbq276_se.mono hx286.1).mono hx297.1).mono hx308.1).mono hx360.1)
      have hbq369_hx : jis V360 (.inl 26) hx := ((((hbq276_hx.mono hx286.1).mono hx297.1).mono hx308.1).mono hx360.1)
      have hOq369_a0 : V360 a0 = some (.inr (5, gs92a0)) := (hx360.2 _ _ (hx308.2 _ _ (hx297.2 _ _ (hx286.2 _ _ hOq276_a0 (jnot_of rfl)) (jnot_of rfl)) (jnot_of rfl)) (jnot_of rfl))
      have hKq369_a0 : jokO V360 (jFs 5) gs92a0 := ((((hKq276_a0.mono hx286.1).mono hx297.1).mono hx308.1).mono hx360.1)
      have haq369_co := (hx360.2 _ _ (hx308.2 _ _ (hx297.2 _ _ (hx286.2 _ _ haq276_co (jnot_of rfl)) (jnot_of rfl)) (jnot_of rfl)) (jnot_of rfl))
      have haq369_sq := (hx360.2 _ _ (hx308.2 _ _ (hx297.2 _ _ (hx286.2 _ _ haq276_sq (jnot_of rfl)) (jnot_of rfl)) (jnot_of rfl)) (jnot_of rfl))
      have haq369_rg := (hx360.2 _ _ (hx308.2 _ _ (hx297.2 _ _ (hx286.2 _ _ haq276_rg (jnot_of rfl)) (jnot_of rfl)) (jnot_of rfl)) (jnot_of rfl))
      have haq369_bg := (hx360.2 _ _ (hx308.2 _ _ (hx297.2 _ _ (hx286.2 _ _ haq276_bg (jnot_of rfl)) (jnot_of rfl)) (jnot_of rfl)) (jnot_of rfl))
      have haq369_se := (hx360.2 _ _ (hx308.2 _ _ (hx297.2 _ _ (hx286.2 _ _ haq276_se (jnot_of rfl)) (jnot_of rfl)) (jnot_of rfl)) (jnot_of rfl))
      have haq369_kn := (hx360.2 _ _ (hx308.2 _ _ (hx297.2 _ _ (hx286.2 _ _ haq276_kn (jnot_of rfl)) (jnot_of rfl)) (jnot_of rfl)) (jnot_of rfl))
      have haq369_rw := (hx360.2 _ _ (hx308.2 _ _ (hx297.2 _ _ (hx286.2 _ _ hA111 (jnot_of rfl)) (jnot_of rfl)) (jnot_of rfl)) (jnot_of rfl))
      have haq369_px := (hx360.2 _ _ (hx308.2 _ _ (hx297.2 _ _ hA286 (jnot_of rfl)) (jnot_of rfl)) (jnot_of rfl))
      have haq369_py := (hx360.2 _ _ (hx308.2 _ _ hA297 (jnot_of rfl)) (jnot_of rfl))
      have haq369_pz := (hx360.2 _ _ hA308 (jnot_of rfl))
      exact w_X7_counts_z_s369 d V0 a0 x1 x2 rw px py pz kn co sq rg bg se hx RW PX PY PZ KN CO SQ RG BG SE HX Q N i4n92 i5n92 gs92a0 F17n92 F18n92 F19n92 F20n92 F23n92 F46n92 F24n92 F25n92 F41n92 F26n92 y5 y251 y168 y184 y215 y231 y108 y110 y177 y193 y224 t0k360 V360 G23 G111 G286 G297 G308 G360 hQ hm hall hrow hpl hnd hse hhx hco ho5 ih92 hd hp0 hp1 hp2 hp3 hp4 hp5 hW he hkp hbq369_a0 hbq369_rw hbq369_px hbq369_py hbq369_pz hbq369_kn hbq369_co hbq369_sq hbq369_rg hbq369_bg hbq369_se hbq369_hx hOq369_a0 hKq369_a0 hFgs92a0_4 hFgs92a0_6 hFgs92a0_7 hFgs92a0_8 hFgs92a0_11 hFgs92a0_12 hFgs92a0_13 hFgs92a0_14 hFgs92a0_15 hFgs92a0_16 hFgs92a0_17 haq369_co haq369_sq haq369_rg haq369_bg haq369_se haq369_kn haq369_rw haq369_px haq369_py haq369_pz hA360 he5 he251 he168 he184 he215 he231 he110 hjb hdx hd19 hremQ c94 c98 hb108 e108 hp111 ho111 c123 hq0 e177 e193 e224 hbnd hbsx hbsy hbsz c258 hPJ hnbN hbxN hsb hnin hPk hPN hk360_0 hp360 ho360 c366
  refine Jz_if_le (tgt := 332) he184 dX7_counts_319 (by decide) (fun c319 => ?_) (fun c319 => ?_)
  · refine Jz_iconst (-1) dX7_counts_332 (by decide) (fun y332 he332 => ?_)
    refine J_goto (tgt := 360) dX7_counts_333 (by decide) ?_
    exact K360  y332  (by rw [htp.eq]; simp only [he332.eq]; (repeat' split) <;> omega)
  · refine J_aload_n dX7_counts_322 rfl ?_
    refine J_get jf_X7_58 dX7_counts_323 (hx308.2 _ _ (hx297.2 _ _ (hx286.2 _ _ hOq276_a0 (jnot_of rfl)) (jnot_of rfl)) (jnot_of rfl)) hFgs92a0_17 ?_
    refine J_iload dX7_counts_326 rfl ?_
    refine Jz_iald (r := ((-2147483648), 2147483647)) jEq.rf dX7_counts_328 (hx308.2 _ _ (hx297.2 _ _ (hx286.2 _ _ haq276_hx (jnot_of rfl)) (jnot_of rfl)) (jnot_of rfl)) rfl hv276_hx (by omega) (by omega) (fun y328 hf328 hl328 hh328 => ?_)
    dsimp only at hl328 hh328
    clear hl328 hh328
    have e328 : jtp (jpl3 (jPf F18n92 F19n92 F20n92) i5n92.toInt.toNat) = y328.toInt := by rw [← hhx i5n92.toInt.toNat (by omega), hf328]
    refine Jz_if_ge (tgt := 336) jEq.rf dX7_counts_329 (by decide) (fun c329 => ?_) (fun c329 => ?_)
    · refine J_iload dX7_counts_336 rfl ?_
      refine J_aload_n dX7_counts_338 rfl ?_
      refine J_get jf_X7_58 dX7_counts_339 (hx308.2 _ _ (hx297.2 _ _ (hx286.2 _ _ hOq276_a0 (jnot_of rfl)) (jnot_of rfl)) (jnot_of rfl)) hFgs92a0_17 ?_
      refine J_iload dX7_counts_342 rfl ?_
      refine Jz_iald (r := ((-2147483648), 2147483647)) jEq.rf dX7_counts_344 (hx308.2 _ _ (hx297.2 _ _ (hx286.2 _ _ haq276_hx (jnot_of rfl)) (jnot_of rfl)) (jnot_of rfl)) rfl hv276_hx (by omega) (by omega) (fun y344 hf344 hl344 hh344 => ?_)
      dsimp only at hl344 hh344
      clear hl344 hh344
      have he344 : jEq y344.toInt (y328.toInt) := by rw [← hf344, hf328]; exact jEq.rf
      have e344 : jtp (jpl3 (jPf F18n92 F19n92 F20n92) i5n92.toInt.toNat) = y344.toInt := by rw [← hhx i5n92.toInt.toNat (by omega), hf344]
      refine Jz_icmp_le (tgt := 353) he184 he344 dX7_counts_345 (by decide) (fun c345 => ?_) (fun c345 => ?_)
      · refine J_aload_n dX7_counts_353 rfl ?_
        refine J_get jf_X7_58 dX7_counts_354 (hx308.2 _ _ (hx297.2 _ _ (hx286.2 _ _ hOq276_a0 (jnot_of rfl)) (jnot_of rfl)) (jnot_of rfl)) hFgs92a0_17 ?_
        refine J_iload dX7_counts_357 rfl ?_
        refine Jz_iald (r := ((-2147483648), 2147483647)) jEq.rf dX7_counts_359 (hx308.2 _ _ (hx297.2 _ _ (hx286.2 _ _ haq276_hx (jnot_of rfl)) (jnot_of rfl)) (jnot_of rfl)) rfl hv276_hx (by omega) (by omega) (fun y359 hf359 hl359 hh359 => ?_)
        dsimp only at hl359 hh359
        clear hl359 hh359
        have he359 : jEq y359.toInt (y328.toInt) := by rw [← hf359, hf328]; exact jEq.rf
        have e359 : jtp (jpl3 (jPf F18n92 F19n92 F20n92) i5n92.toInt.toNat) = y359.toInt := by rw [← hhx i5n92.toInt.toNat (by omega), hf359]
        exact K360  y359  (by rw [htp.eq]; simp only [he359.eq]; (repeat' split) <;> omega)
      · refine J_iload dX7_counts_348 rfl ?_
        refine J_goto (tgt := 360) dX7_counts_350 (by decide) ?_
        exact K360  y184  (by rw [htp.eq]; simp only [he184.eq]; (repeat' split) <;> omega)
    · refine Jz_iconst (-1) dX7_counts_332 (by decide) (fun y332 he332 => ?_)
      refine J_goto (tgt := 360) dX7_counts_333 (by decide) ?_
      exact K360  y332  (by rw [htp.eq]; simp only [he332.eq]; (repeat' split) <;> omega)
set_option maxRecDepth 100000 in
set_option maxHeartbeats 8000000 in
theorem w_X7_counts_z {tS : jTS} (d : Nat) (V0 : jH) (a0 : Nat) (x1 : Int32) (x2 : Int32) (rw : Nat) (px : Nat) (py : Nat) (pz : Nat) (kn : Nat) (co : Nat) (sq : Nat) (rg : Nat) (bg : Nat) (se : Nat) (hx : Nat) (RW : Nat → Int32) (PX : Nat → Int32) (PY : Nat → Int32) (PZ : Nat → Int32) (KN : Nat → Int32) (CO : Nat → Int32) (SQ : Nat → Int64) (RG : Nat → Int32) (BG : Nat → Int32) (SE : Nat → Int32) (HX : Nat → Int32) (hd : 2 ≤ d) (hW : WT V0) (ha0 : jis V0 (.inr 5) a0) (hr_rw : jfR V0 a0 5 4 rw) (hr_px : jfR V0 a0 5 6 px) (hr_py : jfR V0 a0 5 7 py) (hr_pz : jfR V0 a0 5 8 pz) (hr_kn : jfR V0 a0 5 11 kn) (hr_co : jfR V0 a0 5 12 co) (hr_sq : jfR V0 a0 5 13 sq) (hr_rg : jfR V0 a0 5 14 rg) (hr_bg : jfR V0 a0 5 15 bg) (hr_se : jfR V0 a0 5 16 se) (hr_hx : jfR V0 a0 5 17 hx) (ha_RW : V0 rw = some (.inl (17, 120, .inl RW))) (ha_PX : V0 px = some (.inl (18, 121, .inl PX))) (ha_PY : V0 py = some (.inl (19, 121, .inl PY))) (ha_PZ : V0 pz = some (.inl (20, 121, .inl PZ))) (ha_KN : V0 kn = some (.inl (40, 84, .inl KN))) (ha_CO : V0 co = some (.inl (23, 84, .inl CO))) (ha_SQ : V0 sq = some (.inl (46, 84, .inr (.inl SQ)))) (ha_RG : V0 rg = some (.inl (24, 84, .inl RG))) (ha_BG : V0 bg = some (.inl (25, 84, .inl BG))) (ha_SE : V0 se = some (.inl (41, 79507, .inl SE))) (ha_HX : V0 hx = some (.inl (26, 22, .inl HX))) (hp0 : 0 ≤ x1.toInt) (hp1 : x1.toInt ≤ 3) (hp2 : 0 ≤ x2.toInt) (hp3 : x2.toInt ≤ 20) (hp4 : jsn SE []) (hp5 : jmo x1.toInt x2.toInt.toNat KN CO SQ RG BG (21 * x1.toInt + x2.toInt).toNat) : jTot tS mX7_counts d [.ref a0, .int x1, .int x2] V0 0 0 (fun r V => (jPost [.inr 5, .inl 40, .inl 23, .inl 17, .inl 18, .inl 19, .inl 20, .inl 41, .inl 26, .inl 46, .inl 24, .inl 25] V0 rV) r V ∧ (∃ (KN2 CO2 : Nat → Int32) (SQ2 : Nat → Int64) (RG2 BG2 SE2 : Nat → Int32), V kn = some (.inl (40, 84, .inl KN2)) ∧ V co = some (.inl (23, 84, .inl CO2)) ∧ V sq = some (.inl (46, 84, .inr (.inl SQ2))) ∧ V rg = some (.inl (24, 84, .inl RG2)) ∧ V bg = some (.inl (25, 84, .inl BG2)) ∧ V se = some (.inl (41, 79507, .inl SE2)) ∧ jsn SE2 [] ∧ (KN2 (21 * x1.toInt + x2.toInt).toNat).toInt = 1 ∧ jmk x1.toInt x2.toInt.toNat CO2 SQ2 RG2 BG2 (21 * x1.toInt + x2.toInt).toNat ∧ (∀ j : Nat, j ≠ (21 * x1.toInt + x2.toInt).toNat → KN2 j = KN j) ∧ jot CO2 SQ2 RG2 BG2 CO SQ RG BG (21 * x1.toInt + x2.toInt).toNat) ∧ jkc 5 [0, 23, 24] V0 V) := by
  refine jTot.of_J [some (.ref a0), some (.int x1), some (.int x2), none, none, none, none, none, none, none] moX7_counts (Nat.le_of_ble_eq_true rfl) rfl ?_
  suffices hs9 : ∀ Q : Option Value → jH → Prop, (∀ (r : Option Value) (V : jH), (fun r V => (jPost [.inr 5, .inl 40, .inl 23, .inl 17, .inl 18, .inl 19, .inl 20, .inl 41, .inl 26, .inl 46, .inl 24, .inl 25] V0 rV) r V ∧ (∃ (KN2 CO2 : Nat → Int32) (SQ2 : Nat → Int64) (RG2 BG2 SE2 : Nat → Int32), V kn = some (.inl (40, 84, .inl KN2)) ∧ V co = some (.inl (23, 84, .inl CO2)) ∧ V sq = some (.inl (46, 84, .inr (.inl SQ2))) ∧ V rg = some (.inl (24, 84, .inl RG2)) ∧ V bg = some (.inl (25, 84, .inl BG2)) ∧ V se = some (.inl (41, 79507, .inl SE2)) ∧ jsn SE2 [] ∧ (KN2 (21 * x1.toInt + x2.toInt).toNat).toInt = 1 ∧ jmk x1.toInt x2.toInt.toNat CO2 SQ2 RG2 BG2 (21 * x1.toInt + x2.toInt).toNat ∧ (∀ j : Nat, j ≠ (21 * x1.toInt + x2.toInt).toNat → KN2 j = KN j) ∧ jot CO2 SQ2 RG2 BG2 CO SQ RG BG (21 * x1.toInt + x2.toInt).toNat) ∧ jkc 5 [0, 23, 24] V0 V) r V → Q r V) → J tS mX7_counts d 0 [some (.ref a0), some (.int x1), some (.int x2), none, none, none, none, none, none, none] [] V0 0 0 Q from hs9 _ (fun _ _ h => h)
  intro Q hQ
  have hrx1 := j_rng x1
  have hrx2 := j_rng x2
  have he : jeff [.inr 5, .inl 40, .inl 23, .inl 17, .inl 18, .inl 19, .inl 20, .inl 41, .inl 26, .inl 46, .inl 24, .inl 25] V0 V0 := jeff.refl _ _
  have hkp : jkc 5 [0, 23, 24] V0 V0 := jkc.rf
  obtain ⟨fs_a0, hO_a0, hK_a0⟩ := WT_obj hW id ha0
  have hF_rw := hr_rw.get hO_a0
  obtain ⟨w_rw, hFq_rw, b_rw, hbq_rw, hb_rw⟩ := hK_a0.2 4 (.inr (some (.inl 17))) rfl
  cases hF_rw.symm.trans (hFq_rw.trans (congrArg some hbq_rw))
  have hF_px := hr_px.get hO_a0
  obtain ⟨w_px, hFq_px, b_px, hbq_px, hb_px⟩ := hK_a0.2 6 (.inr (some (.inl 18))) rfl
  cases hF_px.symm.trans (hFq_px.trans (congrArg some hbq_px))
  have hF_py := hr_py.get hO_a0
  obtain ⟨w_py, hFq_py, b_py, hbq_py, hb_py⟩ := hK_a0.2 7 (.inr (some (.inl 19))) rfl
  cases hF_py.symm.trans (hFq_py.trans (congrArg some hbq_py))
  have hF_pz := hr_pz.get hO_a0
  obtain ⟨w_pz, hFq_pz, b_pz, hbq_pz, hb_pz⟩ := hK_a0.2 8 (.inr (some (.inl 20))) rfl
  cases hF_pz.symm.trans (hFq_pz.trans (congrArg some hbq_pz))
  have hF_kn := hr_kn.get hO_a0
  obtain ⟨w_kn, hFq_kn, b_kn, hbq_kn, hb_kn⟩ := hK_a0.2 11 (.inr (some (.inl 40))) rfl
  cases hF_kn.symm.trans (hFq_kn.trans (congrArg some hbq_kn))
  have hF_co := hr_co.get hO_a0
  obtain ⟨w_co, hFq_co, b_co, hbq_co, hb_co⟩ := hK_a0.2 12 (.inr (some (.inl 23))) rfl
  cases hF_co.symm.trans (hFq_co.trans (congrArg some hbq_co))
  have hF_sq := hr_sq.get hO_a0
  obtain ⟨w_sq, hFq_sq, b_sq, hbq_sq, hb_sq⟩ := hK_a0.2 13 (.inr (some (.inl 46))) rfl
  cases hF_sq.symm.trans (hFq_sq.trans (congrArg some hbq_sq))
  have hF_rg := hr_rg.get hO_a0
  obtain ⟨w_rg, hFq_rg, b_rg, hbq_rg, hb_rg⟩ := hK_a0.2 14 (.inr (some (.inl 24))) rfl
  cases hF_rg.symm.trans (hFq_rg.trans (congrArg some hbq_rg))
  have hF_bg := hr_bg.get hO_a0
  obtain ⟨w_bg, hFq_bg, b_bg, hbq_bg, hb_bg⟩ := hK_a0.2 15 (.inr (some (.inl 25))) rfl
  cases hF_bg.symm.trans (hFq_bg.trans (congrArg some hbq_bg))
  have hF_se := hr_se.get hO_a0
  obtain ⟨w_se, hFq_se, b_se, hbq_se, hb_se⟩ := hK_a0.2 16 (.inr (some (.inl 41))) rfl
  cases hF_se.symm.trans (hFq_se.trans (congrArg some hbq_se))
  have hF_hx := hr_hx.get hO_a0
  obtain ⟨w_hx, hFq_hx, b_hx, hbq_hx, hb_hx⟩ := hK_a0.2 17 (.inr (some (.inl 26))) rfl
  cases hF_hx.symm.trans (hFq_hx.trans (congrArg some hbq_hx))
  obtain ⟨hN_RW, hv_RW⟩ := WT_rngI (r := ((-2147483648), 2147483647)) hW id rfl ha_RW
  clear hN_RW
  obtain ⟨hN_PX, hv_PX⟩ := WT_rngI (r := ((-2147483648), 2147483647)) hW id rfl ha_PX
  clear hN_PX
  obtain ⟨hN_PY, hv_PY⟩ := WT_rngI (r := ((-2147483648), 2147483647)) hW id rfl ha_PY
  clear hN_PY
  obtain ⟨hN_PZ, hv_PZ⟩ := WT_rngI (r := ((-2147483648), 2147483647)) hW id rfl ha_PZ
  clear hN_PZ
  obtain ⟨hN_KN, hv_KN⟩ := WT_rngI (r := (0, 1)) hW id rfl ha_KN
  clear hN_KN
  obtain ⟨hN_CO, hv_CO⟩ := WT_rngI (r := ((-2147483648), 2147483647)) hW id rfl ha_CO
  clear hN_CO
  obtain ⟨hN_RG, hv_RG⟩ := WT_rngI (r := ((-2147483648), 2147483647)) hW id rfl ha_RG
  clear hN_RG
  obtain ⟨hN_BG, hv_BG⟩ := WT_rngI (r := ((-2147483648), 2147483647)) hW id rfl ha_BG
  clear hN_BG
  obtain ⟨hN_SE, hv_SE⟩ := WT_rngI (r := (0, 1)) hW id rfl ha_SE
  clear hN_SE
  obtain ⟨hN_HX, hv_HX⟩ := WT_rngI (r := ((-2147483648), 2147483647)) hW id rfl ha_HX
  clear hN_HX
  have hjd := jdir_cases x1.toInt
  have hbx0 : jbx (0, 0, 0) := ⟨by decide, by decide, by decide⟩
  have hsp0 := jspot_b hbx0
  refine Jz_bipush 21 dX7_counts_0 (by decide) (fun y0 he0 => ?_)
  refine J_iload_n dX7_counts_2 rfl ?_
  refine Jz_imul he0 jEq.rf dX7_counts_3 (by omega) (by omega) (fun y3 he3 => ?_)
  refine J_iload_n dX7_counts_4 rfl ?_
  refine Jz_iadd he3 jEq.rf dX7_counts_5 (by omega) (by omega) (fun y5 he5 => ?_)
  refine J_istore_n dX7_counts_6 rfl (by decide) ?_
  refine J_aload_n dX7_counts_7 rfl ?_
  refine J_get jf_X7_37 dX7_counts_8 hO_a0 hF_kn ?_
  refine J_iload_n dX7_counts_11 rfl ?_
  refine Jz_zald (r := (0, 1)) he5 dX7_counts_12 ha_KN rfl hv_KN (by omega) (by omega) (fun y12 hf12 hl12 hh12 => ?_)
  dsimp only at hl12 hh12
  have e12 : (KN (21 * x1.toInt + x2.toInt).toNat).toInt = y12.toInt := by rw [hf12]
  refine Jz_if_eq (tgt := 17) jEq.rf dX7_counts_13 (by decide) (fun c13 => ?_) (fun c13 => ?_)
  · obtain ⟨hu1, hu2, hu3, hu4⟩ := hp5.un (by rw [e12]; omega)
    refine J_aload_n dX7_counts_17 rfl ?_
    refine J_get jf_X7_37 dX7_counts_18 hO_a0 hF_kn ?_
    refine J_iload_n dX7_counts_21 rfl ?_
    refine Jz_iconst 1 dX7_counts_22 (by decide) (fun y22 he22 => ?_)
    refine Jz_zast (r := (0, 1)) he5 he22 hW id dX7_counts_23 ha_KN rfl rfl (by omega) (by omega) (by omega) (by omega) (fun _ h => vp_nar_b (by omega) (by omega)) (fun V23 G23 hW hx23 hA23 hp23 ho23 => ?_)
    obtain ⟨hN23, hv23⟩ := WT_rngI (r := (0, 1)) hW id rfl hA23
    clear hN23
    have he := he.trans (hx23.sub (jsub_of rfl))
    have hkp := hkp.trans (jkc.of hx23 (jnot_of rfl))
    refine J_aload_n dX7_counts_24 rfl ?_
    refine J_get jf_X7_41 dX7_counts_25 (hx23.2 _ _ hO_a0 (jnot_of rfl)) hF_co ?_
    refine J_iload_n dX7_counts_28 rfl ?_
    refine J_iload_n dX7_counts_29 rfl ?_
    have K38 : ∀ (t0k38 : Int32), ((x2.toInt = 0 ∧ t0k38.toInt = 1) ∨ (¬ x2.toInt = 0 ∧ t0k38.toInt = 0)) → J tS mX7_counts d 38 [some (.ref a0), some (.int x1), some (.int x2), some (.int y5), none, none, none, none, none, none] [.int t0k38, .int y5, .ref co] V23 0 0 Q := by
      intro  t0k38     hk38_0
      refine Jz_iast (r := ((-2147483648), 2147483647)) he5 jEq.rf hW id dX7_counts_38 (hx23.2 _ _ ha_CO (jnot_of rfl)) rfl rfl (by omega) (by omega) (j_rng _).1 (j_rng _).2 (fun V38 G38 hW hx38 hA38 hp38 ho38 => ?_)
      obtain ⟨hN38, hv38⟩ := WT_rngI (r := ((-2147483648), 2147483647)) hW id rfl hA38
      clear hN38
      have he := he.trans (hx38.sub (jsub_of rfl))
      have hkp := hkp.trans (jkc.of hx38 (jnot_of rfl))
      refine Jz_iconst 0 dX7_counts_39 (by decide) (fun y39 he39 => ?_)
      refine J_istore dX7_counts_40 rfl (by decide) ?_
      refine Jz_iconst 0 dX7_counts_42 (by decide) (fun y42 he42 => ?_)
      refine J_istore dX7_counts_43 rfl (by decide) ?_
      refine J_aload_n dX7_counts_45 rfl ?_
      refine J_get jf_X7_19 dX7_counts_46 (hx38.2 _ _ (hx23.2 _ _ hO_a0 (jnot_of rfl)) (jnot_of rfl)) hF_rw ?_
      refine Jz_iconst 0 dX7_counts_49 (by decide) (fun y49 he49 => ?_)
      refine Jz_iconst (-1) dX7_counts_50 (by decide) (fun y50 he50 => ?_)
      refine Jz_iast (r := ((-2147483648), 2147483647)) he49 he50 hW id dX7_counts_51 (hx38.2 _ _ (hx23.2 _ _ ha_RW (jnot_of rfl)) (jnot_of rfl)) rfl rfl (by omega) (by omega) (by omega) (by omega) (fun V51 G51 hW hx51 hA51 hp51 ho51 => ?_)
      obtain ⟨hN51, hv51⟩ := WT_rngI (r := ((-2147483648), 2147483647)) hW id rfl hA51
      clear hN51
      have he := he.trans (hx51.sub (jsub_of rfl))
      have hkp := hkp.trans (jkc.of hx51 (jnot_of rfl))
      refine J_aload_n dX7_counts_52 rfl ?_
      refine J_get jf_X7_22 dX7_counts_53 (hx51.2 _ _ (hx38.2 _ _ (hx23.2 _ _ hO_a0 (jnot_of rfl)) (jnot_of rfl)) (jnot_of rfl)) hF_px ?_
      refine Jz_iconst 0 dX7_counts_56 (by decide) (fun y56 he56 => ?_)
      refine Jz_iconst 0 dX7_counts_57 (by decide) (fun y57 he57 => ?_)
      refine Jz_iast (r := ((-2147483648), 2147483647)) he56 he57 hW id dX7_counts_58 (hx51.2 _ _ (hx38.2 _ _ (hx23.2 _ _ ha_PX (jnot_of rfl)) (jnot_of rfl)) (jnot_of rfl)) rfl rfl (by omega) (by omega) (by omega) (by omega) (fun V58 G58 hW hx58 hA58 hp58 ho58 => ?_)
      obtain ⟨hN58, hv58⟩ := WT_rngI (r := ((-2147483648), 2147483647)) hW id rfl hA58
      clear hN58
      have he := he.trans (hx58.sub (jsub_of rfl))
      have hkp := hkp.trans (jkc.of hx58 (jnot_of rfl))
      refine J_aload_n dX7_counts_59 rfl ?_
      refine J_get jf_X7_25 dX7_counts_60 (hx58.2 _ _ (hx51.2 _ _ (hx38.2 _ _ (hx23.2 _ _ hO_a0 (jnot_of rfl)) (jnot_of rfl)) (jnot_of rfl)) (jnot_of rfl)) hF_py ?_
      refine Jz_iconst 0 dX7_counts_63 (by decide) (fun y63 he63 => ?_)
      refine Jz_iconst 0 dX7_counts_64 (by decide) (fun y64 he64 => ?_)
      refine Jz_iast (r := ((-2147483648), 2147483647)) he63 he64 hW id dX7_counts_65 (hx58.2 _ _ (hx51.2 _ _ (hx38.2 _ _ (hx23.2 _ _ ha_PY (jnot_of rfl)) (jnot_of rfl)) (jnot_of rfl)) (jnot_of rfl)) rfl rfl (by omega) (by omega) (by omega) (by omega) (fun V65 G65 hW hx65 hA65 hp65 ho65 => ?_)
      obtain ⟨hN65, hv65⟩ := WT_rngI (r := ((-2147483648), 2147483647)) hW id rfl hA65
      clear hN65
      have he := he.trans (hx65.sub (jsub_of rfl))
      have hkp := hkp.trans (jkc.of hx65 (jnot_of rfl))
      refine J_aload_n dX7_counts_66 rfl ?_
      refine J_get jf_X7_28 dX7_counts_67 (hx65.2 _ _ (hx58.2 _ _ (hx51.2 _ _ (hx38.2 _ _ (hx23.2 _ _ hO_a0 (jnot_of rfl)) (jnot_of rfl)) (jnot_of rfl)) (jnot_of rfl)) (jnot_of rfl)) hF_pz ?_
      refine Jz_iconst 0 dX7_counts_70 (by decide) (fun y70 he70 => ?_)
      refine Jz_iconst 0 dX7_counts_71 (by decide) (fun y71 he71 => ?_)
      refine Jz_iast (r := ((-2147483648), 2147483647)) he70 he71 hW id dX7_counts_72 (hx65.2 _ _ (hx58.2 _ _ (hx51.2 _ _ (hx38.2 _ _ (hx23.2 _ _ ha_PZ (jnot_of rfl)) (jnot_of rfl)) (jnot_of rfl)) (jnot_of rfl)) (jnot_of rfl)) rfl rfl (by omega) (by omega) (by omega) (by omega) (fun V72 G72 hW hx72 hA72 hp72 ho72 => ?_)
      obtain ⟨hN72, hv72⟩ := WT_rngI (r := ((-2147483648), 2147483647)) hW id rfl hA72
      clear hN72
      have he := he.trans (hx72.sub (jsub_of rfl))
      have hkp := hkp.trans (jkc.of hx72 (jnot_of rfl))
      refine J_aload_n dX7_counts_73 rfl ?_
      refine J_get jf_X7_55 dX7_counts_74 (hx72.2 _ _ (hx65.2 _ _ (hx58.2 _ _ (hx51.2 _ _ (hx38.2 _ _ (hx23.2 _ _ hO_a0 (jnot_of rfl)) (jnot_of rfl)) (jnot_of rfl)) (jnot_of rfl)) (jnot_of rfl)) (jnot_of rfl)) hF_se ?_
      refine Jz_iconst 0 dX7_counts_77 (by decide) (fun y77 he77 => ?_)
      refine Jz_iconst 0 dX7_counts_78 (by decide) (fun y78 he78 => ?_)
      refine Jz_iconst 0 dX7_counts_79 (by decide) (fun y79 he79 => ?_)
      refine J_callS3 moX7_spot jw_ml_X7_177 jw_st_X7_spot dX7_counts_80 (w_X7_spot_z (d - 1) _ y77 y78 y79 (by omega)   (by (try simp only [he77.eq, true_and, and_true]) <;> omega) (by (try simp only [he77.eq, true_and, and_true]) <;> omega) (by (try simp only [he78.eq, true_and, and_true]) <;> omega) (by (try simp only [he78.eq, true_and, and_true]) <;> omega) (by (try simp only [he79.eq, true_and, and_true]) <;> omega) (by (try simp only [he79.eq, true_and, and_true]) <;> omega)) (by omega) (Nat.zero_le _) (Nat.zero_le _) (Nat.le_of_ble_eq_true rfl) (fun r80 V80 h80 => ?_)
      obtain ⟨⟨y80, rfl, hl80, hh80, hP80_0⟩, hE80⟩ := h80
      have hE80 := hE80.symm
      subst hE80
      clear hl80 hh80
      try simp only [he77.eq, he78.eq, he79.eq] at hP80_0
      have hz80 : jEq y80.toInt (jspot ((0), (0), (0))) := hP80_0
      clear hP80_0
      refine Jz_iconst 1 dX7_counts_83 (by decide) (fun y83 he83 => ?_)
      refine Jz_zast (r := (0, 1)) hz80 he83 hW id dX7_counts_84 (hx72.2 _ _ (hx65.2 _ _ (hx58.2 _ _ (hx51.2 _ _ (hx38.2 _ _ (hx23.2 _ _ ha_SE (jnot_of rfl)) (jnot_of rfl)) (jnot_of rfl)) (jnot_of rfl)) (jnot_of rfl)) (jnot_of rfl)) rfl rfl (by omega) (by omega) (by omega) (by omega) (fun _ h => vp_nar_b (by omega) (by omega)) (fun V84 G84 hW hx84 hA84 hp84 ho84 => ?_)
      obtain ⟨hN84, hv84⟩ := WT_rngI (r := (0, 1)) hW id rfl hA84
      clear hN84
      have he := he.trans (hx84.sub (jsub_of rfl))
      have hkp := hkp.trans (jkc.of hx84 (jnot_of rfl))
      have hsn84 : jsn G84 [(0, 0, 0)] := hp4.set hbx0 (by rw [hp84, he83.eq]; decide) ho84
      refine J_aload_n dX7_counts_85 rfl ?_
      refine J_get jf_X7_58 dX7_counts_86 (hx84.2 _ _ (hx72.2 _ _ (hx65.2 _ _ (hx58.2 _ _ (hx51.2 _ _ (hx38.2 _ _ (hx23.2 _ _ hO_a0 (jnot_of rfl)) (jnot_of rfl)) (jnot_of rfl)) (jnot_of rfl)) (jnot_of rfl)) (jnot_of rfl)) (jnot_of rfl)) hF_hx ?_
      refine Jz_iconst 0 dX7_counts_89 (by decide) (fun y89 he89 => ?_)
      refine Jz_iconst 0 dX7_counts_90 (by decide) (fun y90 he90 => ?_)
      refine Jz_iast (r := ((-2147483648), 2147483647)) he89 he90 hW id dX7_counts_91 (hx84.2 _ _ (hx72.2 _ _ (hx65.2 _ _ (hx58.2 _ _ (hx51.2 _ _ (hx38.2 _ _ (hx23.2 _ _ ha_HX (jnot_of rfl)) (jnot_of rfl)) (jnot_of rfl)) (jnot_of rfl)) (jnot_of rfl)) (jnot_of rfl)) (jnot_of rfl)) rfl rfl (by omega) (by omega) (by omega) (by omega) (fun V91 G91 hW hx91 hA91 hp91 ho91 => ?_)
      obtain ⟨hN91, hv91⟩ := WT_rngI (r := ((-2147483648), 2147483647)) hW id rfl hA91
      clear hN91
      have he := he.trans (hx91.sub (jsub_of rfl))
      have hkp := hkp.trans (jkc.of hx91 (jnot_of rfl))
      have hP0 : jPf G58 G65 G72 0 = (0, 0, 0) := by unfold jPf; rw [show (0 : Nat) = Int.toNat 0 from rfl, hp58, hp65, hp72, he57.eq, he64.eq, he71.eq]
      have hbs92_a0 : jis V91 (.inr 5) a0 := ((((((((ha0.mono hx23.1).mono hx38.1).mono hx51.1).mono hx58.1).mono hx65.1).mono hx72.1).mono hx84.1).mono hx91.1)
      have hbs92_rw : jis V91 (.inl 17) rw := ((((((((hb_rw.mono hx23.1).mono hx38.1).mono hx51.1).mono hx58.1).mono hx65.1).mono hx72.1).mono hx84.1).mono hx91.1)
      have hbs92_px : jis V91 (.inl 18) px := ((((((((hb_px.mono hx23.1).mono hx38.1).mono hx51.1).mono hx58.1).mono hx65.1).mono hx72.1).mono hx84.1).mono hx91.1)
      have hbs92_py : jis V91 (.inl 19) py := ((((((((hb_py.mono hx23.1).mono hx38.1).mono hx51.1).mono hx58.1).mono hx65.1).mono hx72.1).mono hx84.1).mono hx91.1)
      have hbs92_pz : jis V91 (.inl 20) pz := ((((((((hb_pz.mono hx23.1).mono hx38.1).mono hx51.1).mono hx58.1).mono hx65.1).mono hx72.1).mono hx84.1).mono hx91.1)
      have hbs92_kn : jis V91 (.inl 40) kn := ((((((((hb_kn.mono hx23.1).mono hx38.1).mono hx51.1).mono hx58.1).mono hx65.1).mono hx72.1).mono hx84.1).mono hx91.1)
      have hbs92_co : jis V91 (.inl 23) co := ((((((((hb_co.mono hx23.1).mono hx38.1).mono hx51.1).mono hx58.1).mono hx65.1).mono hx72.1).mono hx84.1).mono hx91.1)
      have hbs92_sq : jis V91 (.inl 46) sq := ((((((((hb_sq.mono hx23.1).mono hx38.1).mono hx51.1).mono hx58.1).mono hx65.1).mono hx72.1).mono hx84.1).mono hx91.1)
      have hbs92_rg : jis V91 (.inl 24) rg := ((((((((hb_rg.mono hx23.1).mono hx38.1).mono hx51.1).mono hx58.1).mono hx65.1).mono hx72.1).mono hx84.1).mono hx91.1)
      have hbs92_bg : jis V91 (.inl 25) bg := ((((((((hb_bg.mono hx23.1).mono hx38.1).mono hx51.1).mono hx58.1).mono hx65.1).mono hx72.1).mono hx84.1).mono hx91.1)
      have hbs92_se : jis V91 (.inl 41) se := ((((((((hb_se.mono hx23.1).mono hx38.1).mono hx51.1).mono hx58.1).mono hx65.1).mono hx72.1).mono hx84.1).mono hx91.1)
      have hbs92_hx : jis V91 (.inl 26) hx := ((((((((hb_hx.mono hx23.1).mono hx38.1).mono hx51.1).mono hx58.1).mono hx65.1).mono hx72.1).mono hx84.1).mono hx91.1)
      have hOs92_a0 : V91 a0 = some (.inr (5, fs_a0)) := (hx91.2 _ _ (hx84.2 _ _ (hx72.2 _ _ (hx65.2 _ _ (hx58.2 _ _ (hx51.2 _ _ (hx38.2 _ _ (hx23.2 _ _ hO_a0 (jnot_of rfl)) (jnot_of rfl)) (jnot_of rfl)) (jnot_of rfl)) (jnot_of rfl)) (jnot_of rfl)) (jnot_of rfl)) (jnot_of rfl))
      have hKs92_a0 : jokO V91 (jFs 5) fs_a0 := ((((((((hK_a0.mono hx23.1).mono hx38.1).mono hx51.1).mono hx58.1).mono hx65.1).mono hx72.1).mono hx84.1).mono hx91.1)
      have has92_sq := (hx91.2 _ _ (hx84.2 _ _ (hx72.2 _ _ (hx65.2 _ _ (hx58.2 _ _ (hx51.2 _ _ (hx38.2 _ _ (hx23.2 _ _ ha_SQ (jnot_of rfl)) (jnot_of rfl)) (jnot_of rfl)) (jnot_of rfl)) (jnot_of rfl)) (jnot_of rfl)) (jnot_of rfl)) (jnot_of rfl))
      have has92_rg := (hx91.2 _ _ (hx84.2 _ _ (hx72.2 _ _ (hx65.2 _ _ (hx58.2 _ _ (hx51.2 _ _ (hx38.2 _ _ (hx23.2 _ _ ha_RG (jnot_of rfl)) (jnot_of rfl)) (jnot_of rfl)) (jnot_of rfl)) (jnot_of rfl)) (jnot_of rfl)) (jnot_of rfl)) (jnot_of rfl))
      have has92_bg := (hx91.2 _ _ (hx84.2 _ _ (hx72.2 _ _ (hx65.2 _ _ (hx58.2 _ _ (hx51.2 _ _ (hx38.2 _ _ (hx23.2 _ _ ha_BG (jnot_of rfl)) (jnot_of rfl)) (jnot_of rfl)) (jnot_of rfl)) (jnot_of rfl)) (jnot_of rfl)) (jnot_of rfl)) (jnot_of rfl))
      have has92_kn := (hx91.2 _ _ (hx84.2 _ _ (hx72.2 _ _ (hx65.2 _ _ (hx58.2 _ _ (hx51.2 _ _ (hx38.2 _ _ hA23 (jnot_of rfl)) (jnot_of rfl)) (jnot_of rfl)) (jnot_of rfl)) (jnot_of rfl)) (jnot_of rfl)) (jnot_of rfl))
      have has92_co := (hx91.2 _ _ (hx84.2 _ _ (hx72.2 _ _ (hx65.2 _ _ (hx58.2 _ _ (hx51.2 _ _ hA38 (jnot_of rfl)) (jnot_of rfl)) (jnot_of rfl)) (jnot_of rfl)) (jnot_of rfl)) (jnot_of rfl))
      have has92_rw := (hx91.2 _ _ (hx84.2 _ _ (hx72.2 _ _ (hx65.2 _ _ (hx58.2 _ _ hA51 (jnot_of rfl)) (jnot_of rfl)) (jnot_of rfl)) (jnot_of rfl)) (jnot_of rfl))
      have has92_px := (hx91.2 _ _ (hx84.2 _ _ (hx72.2 _ _ (hx65.2 _ _ hA58 (jnot_of rfl)) (jnot_of rfl)) (jnot_of rfl)) (jnot_of rfl))
      have has92_py := (hx91.2 _ _ (hx84.2 _ _ (hx72.2 _ _ hA65 (jnot_of rfl)) (jnot_of rfl)) (jnot_of rfl))
      have has92_pz := (hx91.2 _ _ (hx84.2 _ _ hA72 (jnot_of rfl)) (jnot_of rfl))
      have has92_se := (hx91.2 _ _ hA84 (jnot_of rfl))
      have L92 : ∀ (N : Nat) (V : jH) (i4n92 : Int32) (i5n92 : Int32) (gs92a0 : List Value) (F17n92 : Nat → Int32) (F18n92 : Nat → Int32) (F19n92 : Nat → Int32) (F20n92 : Nat → Int32) (F23n92 : Nat → Int32) (F46n92 : Nat → Int64) (F24n92 : Nat → Int32) (F25n92 : Nat → Int32) (F41n92 : Nat → Int32) (F26n92 : Nat → Int32), WT V → jeff [.inr 5, .inl 40, .inl 23, .inl 17, .inl 18, .inl 19, .inl 20, .inl 41, .inl 26, .inl 46, .inl 24, .inl 25] V0 V → (jis V (.inr 5) a0) → (jis V (.inl 17) rw) → (jis V (.inl 18) px) → (jis V (.inl 19) py) → (jis V (.inl 20) pz) → (jis V (.inl 40) kn) → (jis V (.inl 23) co) → (jis V (.inl 46) sq) → (jis V (.inl 24) rg) → (jis V (.inl 25) bg) → (jis V (.inl 41) se) → (jis V (.inl 26) hx) → (jkc 5 [0, 23, 24] V0 V) → (V a0 = some (.inr (5, gs92a0))) → (gs92a0[4]? = some (.ref rw)) → (gs92a0[6]? = some (.ref px)) → (gs92a0[7]? = some (.ref py)) → (gs92a0[8]? = some (.ref pz)) → (gs92a0[11]? = some (.ref kn)) → (gs92a0[12]? = some (.ref co)) → (gs92a0[13]? = some (.ref sq)) → (gs92a0[14]? = some (.ref rg)) → (gs92a0[15]? = some (.ref bg)) → (gs92a0[16]? = some (.ref se)) → (gs92a0[17]? = some (.ref hx)) → (V rw = some (.inl (17, 120, .inl F17n92))) → (V px = some (.inl (18, 121, .inl F18n92))) → (V py = some (.inl (19, 121, .inl F19n92))) → (V pz = some (.inl (20, 121, .inl F20n92))) → (V co = some (.inl (23, 84, .inl F23n92))) → (V sq = some (.inl (46, 84, .inr (.inl F46n92)))) → (V rg = some (.inl (24, 84, .inl F24n92))) → (V bg = some (.inl (25, 84, .inl F25n92))) → (V se = some (.inl (41, 79507, .inl F41n92))) → (V hx = some (.inl (26, 22, .inl F26n92))) → (V kn = some (.inl (40, 84, .inl G23))) → (-1 ≤ i5n92.toInt ∧ i5n92.toInt ≤ 19 ∧ (i5n92.toInt < x2.toInt ∨ x2.toInt = 0)) → (0 ≤ i4n92.toInt ∧ i4n92.toInt ≤ 600000) → (∀ k : Nat, (k : Int) ≤ i5n92.toInt → -1 ≤ (F17n92 k).toInt ∧ (F17n92 k).toInt < jdir x1.toInt) → (∀ k : Nat, (k : Int) ≤ i5n92.toInt → jnb x1.toInt k (jPf F18n92 F19n92 F20n92 k)) → (∀ i k : Nat, i < k → (k : Int) ≤ i5n92.toInt → ¬ jPf F18n92 F19n92 F20n92 k = jPf F18n92 F19n92 F20n92 i) → (jsn F41n92 (jplb (jPf F18n92 F19n92 F20n92) (i5n92.toInt + 1).toNat)) → (∀ k : Nat, (k : Int) ≤ i5n92.toInt → (F26n92 k).toInt = jtp (jpl3 (jPf F18n92 F19n92 F20n92) k)) → (1 ≤ x2.toInt → jrS x1.toInt x2.toInt.toNat i5n92.toInt i4n92.toInt (jac F23n92 F46n92 F24n92 F25n92 (21 * x1.toInt + x2.toInt).toNat) F18n92 F19n92 F20n92 F17n92) → (0 ≤ (F23n92 (21 * x1.toInt + x2.toInt).toNat).toInt ∧ (F23n92 (21 * x1.toInt + x2.toInt).toNat).toInt ≤ i4n92.toInt + 1) → (x2.toInt = 0 → (F23n92 (21 * x1.toInt + x2.toInt).toNat).toInt = 1 ∧ F46n92 (21 * x1.toInt + x2.toInt).toNat = 0 ∧ F24n92 (21 * x1.toInt + x2.toInt).toNat = 0 ∧ F25n92 (21 * x1.toInt + x2.toInt).toNat = 0 ∧ i5n92.toInt = 0) → (jot F23n92 F46n92 F24n92 F25n92 CO SQ RG BG (21 * x1.toInt + x2.toInt).toNat) → ((600001 - i4n92.toInt) * 1000 + (i5n92.toInt + 1) * 10 + (7 - (F17n92 i5n92.toInt.toNat).toInt)).toNat < N → J tS mX7_counts d 92 [some (.ref a0), some (.int x1), some (.int x2), some (.int y5), some (.int i4n92), some (.int i5n92), none, none, none, none] [] V 0 0 Q := by
        intro N
        induction N with
        | zero => intro V i4n92 i5n92 gs92a0 F17n92 F18n92 F19n92 F20n92 F23n92 F46n92 F24n92 F25n92 F41n92 F26n92 hW he hbs92_a0 hbs92_rw hbs92_px hbs92_py hbs92_pz hbs92_kn hbs92_co hbs92_sq hbs92_rg hbs92_bg hbs92_se hbs92_hx hkp hOgs92a0 hFgs92a0_4 hFgs92a0_6 hFgs92a0_7 hFgs92a0_8 hFgs92a0_11 hFgs92a0_12 hFgs92a0_13 hFgs92a0_14 hFgs92a0_15 hFgs92a0_16 hFgs92a0_17 hAF17n92 hAF18n92 hAF19n92 hAF20n92 hAF23n92 hAF46n92 hAF24n92 hAF25n92 hAF41n92 hAF26n92 has92_kn hdq hall hrow hpl hnd hse hhx hrem hco hz0 ho5 hm; exact absurd hm (Nat.not_lt_zero _)
        | succ N ih =>
          intro V i4n92 i5n92 gs92a0 F17n92 F18n92 F19n92 F20n92 F23n92 F46n92 F24n92 F25n92 F41n92 F26n92 hW he hbs92_a0 hbs92_rw hbs92_px hbs92_py hbs92_pz hbs92_kn hbs92_co hbs92_sq hbs92_rg hbs92_bg hbs92_se hbs92_hx hkp hOgs92a0 hFgs92a0_4 hFgs92a0_6 hFgs92a0_7 hFgs92a0_8 hFgs92a0_11 hFgs92a0_12 hFgs92a0_13 hFgs92a0_14 hFgs92a0_15 hFgs92a0_16 hFgs92a0_17 hAF17n92 hAF18n92 hAF19n92 hAF20n92 hAF23n92 hAF46n92 hAF24n92 hAF25n92 hAF41n92 hAF26n92 has92_kn hdq hall hrow hpl hnd hse hhx hrem hco hz0 ho5 hm
          have ih92 := ih
          have hri4 := j_rng i4n92
          have hri5 := j_rng i5n92
          have hKgs92a0 : jokO V (jFs 5) gs92a0 := hW _ _ id hOgs92a0
          obtain ⟨hNF17n92, hvF17n92⟩ := WT_rngI (r := ((-2147483648), 2147483647)) hW id rfl hAF17n92
          clear hNF17n92
          obtain ⟨hNF18n92, hvF18n92⟩ := WT_rngI (r := ((-2147483648), 2147483647)) hW id rfl hAF18n92
          clear hNF18n92
          obtain ⟨hNF19n92, hvF19n92⟩ := WT_rngI (r := ((-2147483648), 2147483647)) hW id rfl hAF19n92
          clear hNF19n92
          obtain ⟨hNF20n92, hvF20n92⟩ := WT_rngI (r := ((-2147483648), 2147483647)) hW id rfl hAF20n92
          clear hNF20n92
          obtain ⟨hNF23n92, hvF23n92⟩ := WT_rngI (r := ((-2147483648), 2147483647)) hW id rfl hAF23n92
          clear hNF23n92
          obtain ⟨hNF24n92, hvF24n92⟩ := WT_rngI (r := ((-2147483648), 2147483647)) hW id rfl hAF24n92
          clear hNF24n92
          obtain ⟨hNF25n92, hvF25n92⟩ := WT_rngI (r := ((-2147483648), 2147483647)) hW id rfl hAF25n92
          clear hNF25n92
          obtain ⟨hNF41n92, hvF41n92⟩ := WT_rngI (r := (0, 1)) hW id rfl hAF41n92
          clear hNF41n92
          obtain ⟨hNF26n92, hvF26n92⟩ := WT_rngI (r := ((-2147483648), 2147483647)) hW id rfl hAF26n92
          clear hNF26n92
          refine J_iload dX7_counts_92 rfl ?_
          refine Jz_if_lt (tgt := 488) jEq.rf dX7_counts_94 (by decide) (fun c94 => ?_) (fun c94 => ?_)
          · refine J_aload_n dX7_counts_488 rfl ?_
            refine J_get jf_X7_55 dX7_counts_489 hOgs92a0 hFgs92a0_16 ?_
            refine Jz_iconst 0 dX7_counts_492 (by decide) (fun y492 he492 => ?_)
            refine Jz_iconst 0 dX7_counts_493 (by decide) (fun y493 he493 => ?_)
            refine Jz_iconst 0 dX7_counts_494 (by decide) (fun y494 he494 => ?_)
            refine J_callS3 moX7_spot jw_ml_X7_177 jw_st_X7_spot dX7_counts_495 (w_X7_spot_z (d - 1) _ y492 y493 y494 (by omega)   (by (try simp only [he492.eq, true_and, and_true]) <;> omega) (by (try simp only [he492.eq, true_and, and_true]) <;> omega) (by (try simp only [he493.eq, true_and, and_true]) <;> omega) (by (try simp only [he493.eq, true_and, and_true]) <;> omega) (by (try simp only [he494.eq, true_and, and_true]) <;> omega) (by (try simp only [he494.eq, true_and, and_true]) <;> omega)) (by omega) (Nat.zero_le _) (Nat.zero_le _) (Nat.le_of_ble_eq_true rfl) (fun r495 V495 h495 => ?_)
            obtain ⟨⟨y495, rfl, hl495, hh495, hP495_0⟩, hE495⟩ := h495
            have hE495 := hE495.symm
            subst hE495
            clear hl495 hh495
            try simp only [he492.eq, he493.eq, he494.eq] at hP495_0
            have hz495 : jEq y495.toInt (jspot ((0), (0), (0))) := hP495_0
            clear hP495_0
            refine Jz_iconst 0 dX7_counts_498 (by decide) (fun y498 he498 => ?_)
            refine Jz_zast (r := (0, 1)) hz495 he498 hW id dX7_counts_499 hAF41n92 rfl rfl (by omega) (by omega) (by omega) (by omega) (fun _ h => vp_nar_b (by omega) (by omega)) (fun V499 G499 hW hx499 hA499 hp499 ho499 => ?_)
            obtain ⟨hN499, hv499⟩ := WT_rngI (r := (0, 1)) hW id rfl hA499
            clear hN499
            have he := he.trans (hx499.sub (jsub_of rfl))
            have hkp := hkp.trans (jkc.of hx499 (jnot_of rfl))
            exact J_ret (r := none) dX7_counts_500 ⟨rfl, rfl⟩ (hQ _ _ (⟨⟨hW, he, rfl⟩, ⟨G23, F23n92, F46n92, F24n92, F25n92, G499, (hx499.2 _ _ has92_kn (jnot_of rfl)), (hx499.2 _ _ hAF23n92 (jnot_of rfl)), (hx499.2 _ _ hAF46n92 (jnot_of rfl)), (hx499.2 _ _ hAF24n92 (jnot_of rfl)), (hx499.2 _ _ hAF25n92 (jnot_of rfl)), hA499, (by
    by_cases e0 : x2.toInt = 0
    · have q := hse
      rw [(hz0 e0).2.2.2.2, show ((0 : Int) + 1).toNat = 0 + 1 from rfl, jplb_succ] at q
      have hz := hpl 0 (by have := (hz0 e0).2.2.2.2; omega)
      have hpz : jPf F18n92 F19n92 F20n92 0 = (0, 0, 0) := by obtain ⟨a1, a2, a3, -⟩ := hz; exact Prod.ext (by show (jPf F18n92 F19n92 F20n92 0).1 = 0; omega) (Prod.ext (by show (jPf F18n92 F19n92 F20n92 0).2.1 = 0; omega) (by show (jPf F18n92 F19n92 F20n92 0).2.2 = 0; omega))
      rw [hpz] at q
      exact q.clr List.not_mem_nil hbx0 (by rw [hp499, he498.eq]) ho499
    · have q := hse
      rw [show (i5n92.toInt + 1).toNat = 0 by omega] at q
      exact q.off hbx0 (by rw [hp499, he498.eq]) ho499), (by rw [hp23, he22.eq]), (by
    by_cases e0 : x2.toInt = 0
    · obtain ⟨a1, a2, a3, a4, -⟩ := hz0 e0
      refine Or.inl ⟨by rw [show x2.toInt.toNat = 0 by omega, jTT_0]; decide, by omega, ?_⟩
      rw [show x2.toInt.toNat = 0 by omega, jrq_0]
      unfold jac
      rw [a1, a2, a3, a4]
      rfl
    · obtain ⟨d3, d2⟩ := (hrem (by omega)).done (by omega) (by omega)
      exact Or.inl ⟨by omega, hco.1, d2⟩), ho23, ho5⟩, hkp⟩))
          · refine J_iload_n dX7_counts_97 rfl ?_
            refine Jz_if_le (tgt := 488) jEq.rf dX7_counts_98 (by decide) (fun c98 => ?_) (fun c98 => ?_)
            · refine J_aload_n dX7_counts_488 rfl ?_
              refine J_get jf_X7_55 dX7_counts_489 hOgs92a0 hFgs92a0_16 ?_
              refine Jz_iconst 0 dX7_counts_492 (by decide) (fun y492 he492 => ?_)
              refine Jz_iconst 0 dX7_counts_493 (by decide) (fun y493 he493 => ?_)
              refine Jz_iconst 0 dX7_counts_494 (by decide) (fun y494 he494 => ?_)
              refine J_callS3 moX7_spot jw_ml_X7_177 jw_st_X7_spot dX7_counts_495 (w_X7_spot_z (d - 1) _ y492 y493 y494 (by omega)   (by (try simp only [he492.eq, true_and, and_true]) <;> omega) (by (try simp only [he492.eq, true_and, and_true]) <;> omega) (by (try simp only [he493.eq, true_and, and_true]) <;> omega) (by (try simp only [he493.eq, true_and, and_true]) <;> omega) (by (try simp only [he494.eq, true_and, and_true]) <;> omega) (by (try simp only [he494.eq, true_and, and_true]) <;> omega)) (by omega) (Nat.zero_le _) (Nat.zero_le _) (Nat.le_of_ble_eq_true rfl) (fun r495 V495 h495 => ?_)
              obtain ⟨⟨y495, rfl, hl495, hh495, hP495_0⟩, hE495⟩ := h495
              have hE495 := hE495.symm
              subst hE495
              clear hl495 hh495
              try simp only [he492.eq, he493.eq, he494.eq] at hP495_0
              have hz495 : jEq y495.toInt (jspot ((0), (0), (0))) := hP495_0
              clear hP495_0
              refine Jz_iconst 0 dX7_counts_498 (by decide) (fun y498 he498 => ?_)
              refine Jz_zast (r := (0, 1)) hz495 he498 hW id dX7_counts_499 hAF41n92 rfl rfl (by omega) (by omega) (by omega) (by omega) (fun _ h => vp_nar_b (by omega) (by omega)) (fun V499 G499 hW hx499 hA499 hp499 ho499 => ?_)
              obtain ⟨hN499, hv499⟩ := WT_rngI (r := (0, 1)) hW id rfl hA499
              clear hN499
              have he := he.trans (hx499.sub (jsub_of rfl))
              have hkp := hkp.trans (jkc.of hx499 (jnot_of rfl))
              exact J_ret (r := none) dX7_counts_500 ⟨rfl, rfl⟩ (hQ _ _ (⟨⟨hW, he, rfl⟩, ⟨G23, F23n92, F46n92, F24n92, F25n92, G499, (hx499.2 _ _ has92_kn (jnot_of rfl)), (hx499.2 _ _ hAF23n92 (jnot_of rfl)), (hx499.2 _ _ hAF46n92 (jnot_of rfl)), (hx499.2 _ _ hAF24n92 (jnot_of rfl)), (hx499.2 _ _ hAF25n92 (jnot_of rfl)), hA499, (by
    by_cases e0 : x2.toInt = 0
    · have q := hse
      rw [(hz0 e0).2.2.2.2, show ((0 : Int) + 1).toNat = 0 + 1 from rfl, jplb_succ] at q
      have hz := hpl 0 (by have := (hz0 e0).2.2.2.2; omega)
      have hpz : jPf F18n92 F19n92 F20n92 0 = (0, 0, 0) := by obtain ⟨a1, a2, a3, -⟩ := hz; exact Prod.ext (by show (jPf F18n92 F19n92 F20n92 0).1 = 0; omega) (Prod.ext (by show (jPf F18n92 F19n92 F20n92 0).2.1 = 0; omega) (by show (jPf F18n92 F19n92 F20n92 0).2.2 = 0; omega))
      rw [hpz] at q
      exact q.clr List.not_mem_nil hbx0 (by rw [hp499, he498.eq]) ho499
    · have q := hse
      rw [show (i5n92.toInt + 1).toNat = 0 by omega] at q
      exact q.off hbx0 (by rw [hp499, he498.eq]) ho499), (by rw [hp23, he22.eq]), (by
    by_cases e0 : x2.toInt = 0
    · obtain ⟨a1, a2, a3, a4, -⟩ := hz0 e0
      refine Or.inl ⟨by rw [show x2.toInt.toNat = 0 by omega, jTT_0]; decide, by omega, ?_⟩
      rw [show x2.toInt.toNat = 0 by omega, jrq_0]
      unfold jac
      rw [a1, a2, a3, a4]
      rfl
    · obtain ⟨d3, d2⟩ := (hrem (by omega)).done (by omega) (by omega)
      exact Or.inl ⟨by omega, hco.1, d2⟩), ho23, ho5⟩, hkp⟩))
            · have hdx : i5n92.toInt < x2.toInt := by omega
              have hd19 : i5n92.toInt ≤ 19 := hdq.2.1
              have hjb : 3 ≤ jdir x1.toInt ∧ jdir x1.toInt ≤ 6 := by omega
              have hremQ := hrem (by omega)
              clear hrem hz0 hdq hjd
              have hq0 := hpl i5n92.toInt.toNat (by omega)
              have hbxD : jbx ((jPf F18n92 F19n92 F20n92) i5n92.toInt.toNat) := hq0.bx (by omega)
              have hq1 := hq0
              unfold jnb jPf at hq1
              dsimp only at hq1
              rw [show ((i5n92.toInt.toNat : Nat) : Int) = i5n92.toInt from Int.toNat_of_nonneg (by omega)] at hq1
              refine J_aload_n dX7_counts_101 rfl ?_
              refine J_get jf_X7_19 dX7_counts_102 hOgs92a0 hFgs92a0_4 ?_
              refine J_iload dX7_counts_105 rfl ?_
              refine J_dup2 dX7_counts_107 rfl rfl ?_
              refine Jz_iald (r := ((-2147483648), 2147483647)) jEq.rf dX7_counts_108 hAF17n92 rfl hvF17n92 (by omega) (by omega) (fun y108 hf108 hl108 hh108 => ?_)
              dsimp only at hl108 hh108
              clear hl108 hh108
              have hb108 := hrow i5n92.toInt.toNat (by omega)
              have e108 : (F17n92 i5n92.toInt.toNat).toInt = y108.toInt := by rw [hf108]
              rw [e108] at hb108
              refine Jz_iconst 1 dX7_counts_109 (by decide) (fun y109 he109 => ?_)
              refine Jz_iadd jEq.rf he109 dX7_counts_110 (by omega) (by omega) (fun y110 he110 => ?_)
              refine Jz_iast (r := ((-2147483648), 2147483647)) jEq.rf he110 hW id dX7_counts_111 hAF17n92 rfl rfl (by omega) (by omega) (by omega) (by omega) (fun V111 G111 hW hx111 hA111 hp111 ho111 => ?_)
              obtain ⟨hN111, hv111⟩ := WT_rngI (r := ((-2147483648), 2147483647)) hW id rfl hA111
              clear hN111
              have he := he.trans (hx111.sub (jsub_of rfl))
              have hkp := hkp.trans (jkc.of hx111 (jnot_of rfl))
              refine J_aload_n dX7_counts_112 rfl ?_
              refine J_get jf_X7_19 dX7_counts_113 (hx111.2 _ _ hOgs92a0 (jnot_of rfl)) hFgs92a0_4 ?_
              refine J_iload dX7_counts_116 rfl ?_
              refine Jz_iald (r := ((-2147483648), 2147483647)) jEq.rf dX7_counts_118 hA111 rfl hv111 (by omega) (by omega) (fun y118 hf118 hl118 hh118 => ?_)
              dsimp only at hl118 hh118
              clear hl118 hh118
              have he118 : jEq y118.toInt (y108.toInt + 1) := by rw [← hf118, hp111]; exact he110
              refine J_iload_n dX7_counts_119 rfl ?_
              refine J_callS1 moX7_directions jw_ml_X7_133 jw_st_X7_directions dX7_counts_120 (w_X7_directions (d - 1) _ x1 (by omega)   ) (by omega) (Nat.zero_le _) (Nat.zero_le _) (Nat.le_of_ble_eq_true rfl) (fun r120 V120 h120 => ?_)
              obtain ⟨⟨y120, rfl, hl120, hh120, hP120_0⟩, hE120⟩ := h120
              have hE120 := hE120.symm
              subst hE120
              have hz120 : jEq y120.toInt (jdir (x1.toInt)) := hP120_0
              simp only [hP120_0] at hl120 hh120
              clear hP120_0
              refine Jz_icmp_ne (tgt := 162) he118 hz120 dX7_counts_123 (by decide) (fun c123 => ?_) (fun c123 => ?_)
              · refine J_aload_n dX7_counts_162 rfl ?_
                refine J_get jf_X7_19 dX7_counts_163 (hx111.2 _ _ hOgs92a0 (jnot_of rfl)) hFgs92a0_4 ?_
                refine J_iload dX7_counts_166 rfl ?_
                refine Jz_iald (r := ((-2147483648), 2147483647)) jEq.rf dX7_counts_168 hA111 rfl hv111 (by omega) (by omega) (fun y168 hf168 hl168 hh168 => ?_)
                dsimp only at hl168 hh168
                clear hl168 hh168
                have he168 : jEq y168.toInt (y108.toInt + 1) := by rw [← hf168, hp111]; exact he110
                refine J_istore dX7_counts_169 rfl (by decide) ?_
                refine J_aload_n dX7_counts_171 rfl ?_
                refine J_get jf_X7_22 dX7_counts_172 (hx111.2 _ _ hOgs92a0 (jnot_of rfl)) hFgs92a0_6 ?_
                refine J_iload dX7_counts_175 rfl ?_
                refine Jz_iald (r := ((-2147483648), 2147483647)) jEq.rf dX7_counts_177 (hx111.2 _ _ hAF18n92 (jnot_of rfl)) rfl hvF18n92 (by omega) (by omega) (fun y177 hf177 hl177 hh177 => ?_)
                dsimp only at hl177 hh177
                clear hl177 hh177
                have e177 : (F18n92 i5n92.toInt.toNat).toInt = y177.toInt := by rw [hf177]
                refine J_iload_n dX7_counts_178 rfl ?_
                refine J_iload dX7_counts_179 rfl ?_
                refine J_callS2 moX7_stepX jw_ml_X7_112 jw_st_X7_stepX dX7_counts_181 (w_X7_stepX_z (d - 1) _ x1 y168 (by omega)   (by omega) (by omega)) (by omega) (Nat.zero_le _) (Nat.zero_le _) (Nat.le_of_ble_eq_true rfl) (fun r181 V181 h181 => ?_)
                obtain ⟨⟨y181, rfl, hl181, hh181, hP181_0⟩, hE181⟩ := h181
                have hE181 := hE181.symm
                subst hE181
                try simp only [he168.eq] at hP181_0
                have hz181 : jEq y181.toInt (jsx (x1.toInt) (y108.toInt + 1)) := hP181_0
                simp only [hP181_0] at hl181 hh181
                clear hP181_0
                have hbsx := jsx_b x1.toInt (y108.toInt + 1)
                refine Jz_iadd jEq.rf hz181 dX7_counts_184 (by omega) (by omega) (fun y184 he184 => ?_)
                refine J_istore dX7_counts_185 rfl (by decide) ?_
                refine J_aload_n dX7_counts_187 rfl ?_
                refine J_get jf_X7_25 dX7_counts_188 (hx111.2 _ _ hOgs92a0 (jnot_of rfl)) hFgs92a0_7 ?_
                refine J_iload dX7_counts_191 rfl ?_
                refine Jz_iald (r := ((-2147483648), 2147483647)) jEq.rf dX7_counts_193 (hx111.2 _ _ hAF19n92 (jnot_of rfl)) rfl hvF19n92 (by omega) (by omega) (fun y193 hf193 hl193 hh193 => ?_)
                dsimp only at hl193 hh193
                clear hl193 hh193
                have e193 : (F19n92 i5n92.toInt.toNat).toInt = y193.toInt := by rw [hf193]
                refine J_iload_n dX7_counts_194 rfl ?_
                refine J_iload dX7_counts_195 rfl ?_
                refine J_aload_n dX7_counts_197 rfl ?_
                refine J_get jf_X7_22 dX7_counts_198 (hx111.2 _ _ hOgs92a0 (jnot_of rfl)) hFgs92a0_6 ?_
                refine J_iload dX7_counts_201 rfl ?_
                refine Jz_iald (r := ((-2147483648), 2147483647)) jEq.rf dX7_counts_203 (hx111.2 _ _ hAF18n92 (jnot_of rfl)) rfl hvF18n92 (by omega) (by omega) (fun y203 hf203 hl203 hh203 => ?_)
                dsimp only at hl203 hh203
                clear hl203 hh203
                have he203 : jEq y203.toInt (y177.toInt) := by rw [← hf203, hf177]; exact jEq.rf
                refine J_aload_n dX7_counts_204 rfl ?_
                refine J_get jf_X7_25 dX7_counts_205 (hx111.2 _ _ hOgs92a0 (jnot_of rfl)) hFgs92a0_7 ?_
                refine J_iload dX7_counts_208 rfl ?_
                refine Jz_iald (r := ((-2147483648), 2147483647)) jEq.rf dX7_counts_210 (hx111.2 _ _ hAF19n92 (jnot_of rfl)) rfl hvF19n92 (by omega) (by omega) (fun y210 hf210 hl210 hh210 => ?_)
                dsimp only at hl210 hh210
                clear hl210 hh210
                have he210 : jEq y210.toInt (y193.toInt) := by rw [← hf210, hf193]; exact jEq.rf
                refine Jz_iadd he203 he210 dX7_counts_211 (by omega) (by omega) (fun y211 he211 => ?_)
                refine J_callS3 moX7_stepY jw_ml_X7_115 jw_st_X7_stepY dX7_counts_212 (w_X7_stepY_z (d - 1) _ x1 y168 y211 (by omega)   (by omega) (by omega)) (by omega) (Nat.zero_le _) (Nat.zero_le _) (Nat.le_of_ble_eq_true rfl) (fun r212 V212 h212 => ?_)
                obtain ⟨⟨y212, rfl, hl212, hh212, hP212_0⟩, hE212⟩ := h212
                have hE212 := hE212.symm
                subst hE212
                try simp only [he168.eq, he211.eq] at hP212_0
                have hz212 : jEq y212.toInt (jsy (x1.toInt) (y108.toInt + 1) (y177.toInt + y193.toInt)) := hP212_0
                simp only [hP212_0] at hl212 hh212
                clear hP212_0
                have hbsy := jsy_b x1.toInt (y108.toInt + 1) (y177.toInt + y193.toInt)
                refine Jz_iadd jEq.rf hz212 dX7_counts_215 (by omega) (by omega) (fun y215 he215 => ?_)
                refine J_istore dX7_counts_216 rfl (by decide) ?_
                refine J_aload_n dX7_counts_218 rfl ?_
                refine J_get jf_X7_28 dX7_counts_219 (hx111.2 _ _ hOgs92a0 (jnot_of rfl)) hFgs92a0_8 ?_
                refine J_iload dX7_counts_222 rfl ?_
                refine Jz_iald (r := ((-2147483648), 2147483647)) jEq.rf dX7_counts_224 (hx111.2 _ _ hAF20n92 (jnot_of rfl)) rfl hvF20n92 (by omega) (by omega) (fun y224 hf224 hl224 hh224 => ?_)
                dsimp only at hl224 hh224
                clear hl224 hh224
                have e224 : (F20n92 i5n92.toInt.toNat).toInt = y224.toInt := by rw [hf224]
                refine J_iload_n dX7_counts_225 rfl ?_
                refine J_iload dX7_counts_226 rfl ?_
                refine J_callS2 moX7_stepZ jw_ml_X7_119 jw_st_X7_stepZ dX7_counts_228 (w_X7_stepZ_z (d - 1) _ x1 y168 (by omega)   (by omega) (by omega)) (by omega) (Nat.zero_le _) (Nat.zero_le _) (Nat.le_of_ble_eq_true rfl) (fun r228 V228 h228 => ?_)
                obtain ⟨⟨y228, rfl, hl228, hh228, hP228_0⟩, hE228⟩ := h228
                have hE228 := hE228.symm
                subst hE228
                try simp only [he168.eq] at hP228_0
                have hz228 : jEq y228.toInt (jsz (x1.toInt) (y108.toInt + 1)) := hP228_0
                simp only [hP228_0] at hl228 hh228
                clear hP228_0
                have hbsz := jsz_b x1.toInt (y108.toInt + 1)
                refine Jz_iadd jEq.rf hz228 dX7_counts_231 (by omega) (by omega) (fun y231 he231 => ?_)
                refine J_istore dX7_counts_232 rfl (by decide) ?_
                refine J_aload_n dX7_counts_234 rfl ?_
                refine J_get jf_X7_55 dX7_counts_235 (hx111.2 _ _ hOgs92a0 (jnot_of rfl)) hFgs92a0_16 ?_
                refine J_iload dX7_counts_238 rfl ?_
                refine J_iload dX7_counts_240 rfl ?_
                refine J_iload dX7_counts_242 rfl ?_
                have hPJ : jnx x1.toInt (y108.toInt + 1) ((jPf F18n92 F19n92 F20n92) i5n92.toInt.toNat) = ((y177.toInt + jsx x1.toInt (y108.toInt + 1)), (y193.toInt + jsy x1.toInt (y108.toInt + 1) (y177.toInt + y193.toInt)), (y224.toInt + jsz x1.toInt (y108.toInt + 1))) := by unfold jnx jPf; dsimp only; rw [e177, e193, e224]
                have hnbN : jnb x1.toInt (i5n92.toInt.toNat + 1) ((y177.toInt + jsx x1.toInt (y108.toInt + 1)), (y193.toInt + jsy x1.toInt (y108.toInt + 1) (y177.toInt + y193.toInt)), (y224.toInt + jsz x1.toInt (y108.toInt + 1))) := by rw [← hPJ]; exact hq0.next
                have hbxN : jbx ((y177.toInt + jsx x1.toInt (y108.toInt + 1)), (y193.toInt + jsy x1.toInt (y108.toInt + 1) (y177.toInt + y193.toInt)), (y224.toInt + jsz x1.toInt (y108.toInt + 1))) := hnbN.bx (by omega)
                refine J_callS3 moX7_spot jw_ml_X7_177 jw_st_X7_spot dX7_counts_244 (w_X7_spot_z (d - 1) _ y184 y215 y231 (by omega)   (by (try simp only [he184.eq, true_and, and_true]) <;> omega) (by (try simp only [he184.eq, true_and, and_true]) <;> omega) (by (try simp only [he215.eq, true_and, and_true]) <;> omega) (by (try simp only [he215.eq, true_and, and_true]) <;> omega) (by (try simp only [he231.eq, true_and, and_true]) <;> omega) (by (try simp only [he231.eq, true_and, and_true]) <;> omega)) (by omega) (Nat.zero_le _) (Nat.zero_le _) (Nat.le_of_ble_eq_true rfl) (fun r244 V244 h244 => ?_)
                obtain ⟨⟨y244, rfl, hl244, hh244, hP244_0⟩, hE244⟩ := h244
                have hE244 := hE244.symm
                subst hE244
                clear hl244 hh244
                try simp only [he184.eq, he215.eq, he231.eq] at hP244_0
                have hz244 : jEq y244.toInt (jspot ((y177.toInt + (jsx (x1.toInt) (y108.toInt + 1))), (y193.toInt + (jsy (x1.toInt) (y108.toInt + 1) (y177.toInt + y193.toInt))), (y224.toInt + (jsz (x1.toInt) (y108.toInt + 1))))) := hP244_0
                clear hP244_0
                have hsb := jspot_b hbxN
                have hsq : (F41n92 (jspot ((y177.toInt + jsx x1.toInt (y108.toInt + 1)), (y193.toInt + jsy x1.toInt (y108.toInt + 1) (y177.toInt + y193.toInt)), (y224.toInt + jsz x1.toInt (y108.toInt + 1)))).toNat).toInt = 0 ↔ ¬ ((y177.toInt + jsx x1.toInt (y108.toInt + 1)), (y193.toInt + jsy x1.toInt (y108.toInt + 1) (y177.toInt + y193.toInt)), (y224.toInt + jsz x1.toInt (y108.toInt + 1))) ∈ (jpl3 (jPf F18n92 F19n92 F20n92) i5n92.toInt.toNat) := by have q := hse ((y177.toInt + jsx x1.toInt (y108.toInt + 1)), (y193.toInt + jsy x1.toInt (y108.toInt + 1) (y177.toInt + y193.toInt)), (y224.toInt + jsz x1.toInt (y108.toInt + 1))) hbxN; rw [show (i5n92.toInt + 1).toNat = i5n92.toInt.toNat + 1 by omega] at q; exact q
                refine Jz_zald (r := (0, 1)) hz244 dX7_counts_247 (hx111.2 _ _ hAF41n92 (jnot_of rfl)) rfl hvF41n92 (by omega) (by omega) (fun y247 hf247 hl247 hh247 => ?_)
                dsimp only at hl247 hh247
                have e247 : (F41n92 (jspot ((y177.toInt + jsx x1.toInt (y108.toInt + 1)), (y193.toInt + jsy x1.toInt (y108.toInt + 1) (y177.toInt + y193.toInt)), (y224.toInt + jsz x1.toInt (y108.toInt + 1)))).toNat).toInt = y247.toInt := by rw [hf247]
                refine Jz_if_ne (tgt := 485) jEq.rf dX7_counts_248 (by decide) (fun c248 => ?_) (fun c248 => ?_)
                · have hin : ((y177.toInt + jsx x1.toInt (y108.toInt + 1)), (y193.toInt + jsy x1.toInt (y108.toInt + 1) (y177.toInt + y193.toInt)), (y224.toInt + jsz x1.toInt (y108.toInt + 1))) ∈ (jpl3 (jPf F18n92 F19n92 F20n92) i5n92.toInt.toNat) := Classical.byContradiction (fun z => c248 (by rw [← e247]; exact hsq.mpr z))
                  refine J_goto (tgt := 92) dX7_counts_485 (by decide) ?_
                  have hm0 : (F17n92 i5n92.toInt.toNat).toInt = y108.toInt := e108
                  have hm1 : (G111 i5n92.toInt.toNat).toInt = y108.toInt + 1 := by rw [hp111, he110.eq]
                  have hrem2 : 1 ≤ x2.toInt → jrS x1.toInt x2.toInt.toNat i5n92.toInt i4n92.toInt (jac F23n92 F46n92 F24n92 F25n92 (21 * x1.toInt + x2.toInt).toNat) F18n92 F19n92 F20n92 G111 := fun _ => hremQ.same (by omega) (by rw [e108]; omega) (by rw [e108]; omega) (by rw [hm1, e108]) ho111 (by rw [e108, hPJ]; exact hin)
                  refine J.mask [true, true, true, true, true, true, false, false, false, false] ?_
                  exact ih92 _ i4n92 i5n92 gs92a0 G111 F18n92 F19n92 F20n92 F23n92 F46n92 F24n92 F25n92 F41n92 F26n92 hW he (hbs92_a0.mono hx111.1) (hbs92_rw.mono hx111.1) (hbs92_px.mono hx111.1) (hbs92_py.mono hx111.1) (hbs92_pz.mono hx111.1) (hbs92_kn.mono hx111.1) (hbs92_co.mono hx111.1) (hbs92_sq.mono hx111.1) (hbs92_rg.mono hx111.1) (hbs92_bg.mono hx111.1) (hbs92_se.mono hx111.1) (hbs92_hx.mono hx111.1) hkp (hx111.2 _ _ hOgs92a0 (jnot_of rfl)) hFgs92a0_4 hFgs92a0_6 hFgs92a0_7 hFgs92a0_8 hFgs92a0_11 hFgs92a0_12 hFgs92a0_13 hFgs92a0_14 hFgs92a0_15 hFgs92a0_16 hFgs92a0_17 hA111 (hx111.2 _ _ hAF18n92 (jnot_of rfl)) (hx111.2 _ _ hAF19n92 (jnot_of rfl)) (hx111.2 _ _ hAF20n92 (jnot_of rfl)) (hx111.2 _ _ hAF23n92 (jnot_of rfl)) (hx111.2 _ _ hAF46n92 (jnot_of rfl)) (hx111.2 _ _ hAF24n92 (jnot_of rfl)) (hx111.2 _ _ hAF25n92 (jnot_of rfl)) (hx111.2 _ _ hAF41n92 (jnot_of rfl)) (hx111.2 _ _ hAF26n92 (jnot_of rfl)) (hx111.2 _ _ has92_kn (jnot_of rfl)) (by omega) (by omega) (fun k hk => by by_cases h9 : (k : Int) = i5n92.toInt; (have e9 : k = i5n92.toInt.toNat := by omega); subst e9; rw [hp111, he110.eq]; omega; rw [ho111 k (by omega)]; exact hrow k (by omega)) hpl hnd hse hhx hrem2 (by omega) (fun q => absurd q (by omega)) ho5 (by omega)
                · have hbnd : (-i5n92.toInt ≤ y177.toInt ∧ y177.toInt ≤ i5n92.toInt) ∧ (-i5n92.toInt ≤ y193.toInt ∧ y193.toInt ≤ i5n92.toInt) ∧ (-i5n92.toInt ≤ y224.toInt ∧ y224.toInt ≤ i5n92.toInt) := by omega
                  have hnin : ¬ ((y177.toInt + jsx x1.toInt (y108.toInt + 1)), (y193.toInt + jsy x1.toInt (y108.toInt + 1) (y177.toInt + y193.toInt)), (y224.toInt + jsz x1.toInt (y108.toInt + 1))) ∈ (jpl3 (jPf F18n92 F19n92 F20n92) i5n92.toInt.toNat) := hsq.mp (by rw [e247]; omega)
                  have htp : jEq (jtp (((y177.toInt + jsx x1.toInt (y108.toInt + 1)), (y193.toInt + jsy x1.toInt (y108.toInt + 1) (y177.toInt + y193.toInt)), (y224.toInt + jsz x1.toInt (y108.toInt + 1))) :: (jpl3 (jPf F18n92 F19n92 F20n92) i5n92.toInt.toNat))) (if (y177.toInt + jsx x1.toInt (y108.toInt + 1)) ≤ 0 ∨ jtp (jpl3 (jPf F18n92 F19n92 F20n92) i5n92.toInt.toNat) < 0 then -1 else if jtp (jpl3 (jPf F18n92 F19n92 F20n92) i5n92.toInt.toNat) < (y177.toInt + jsx x1.toInt (y108.toInt + 1)) then (y177.toInt + jsx x1.toInt (y108.toInt + 1)) else jtp (jpl3 (jPf F18n92 F19n92 F20n92) i5n92.toInt.toNat)) := jtp_cons (jpl3_len _ _)
                  refine Jz_iinc 1 dX7_counts_251 rfl rfl (by decide) jEq.rf (by decide) (by omega) (by omega) (fun y251 he251 => ?_)
                  refine J_iload dX7_counts_254 rfl ?_
                  refine Jz_ldc 600000 jw_k_X7_180 dX7_counts_256 (by decide) (fun y256 he256 => ?_)
                  refine Jz_icmp_le (tgt := 276) he251 he256 dX7_counts_258 (by decide) (fun c258 => ?_) (fun c258 => ?_)
                  · have hbq276_a0 : jis V111 (.inr 5) a0 := (hbs92_a0.mono hx111.1)
                    have hbq276_rw : jis V111 (.inl 17) rw := (hbs92_rw.mono hx111.1)
                    have hbq276_px : jis V111 (.inl 18) px := (hbs92_px.mono hx111.1)
                    have hbq276_py : jis V111 (.inl 19) py := (hbs92_py.mono hx111.1)
                    have hbq276_pz : jis V111 (.inl 20) pz := (hbs92_pz.mono hx111.1)
                    have hbq276_kn : jis V111 (.inl 40) kn := (hbs92_kn.mono hx111.1)
                    have hbq276_co : jis V111 (.inl 23) co := (hbs92_co.mono hx111.1)
                    have hbq276_sq : jis V111 (.inl 46) sq := (hbs92_sq.mono hx111.1)
                    have hbq276_rg : jis V111 (.inl 24) rg := (hbs92_rg.mono hx111.1)
                    have hbq276_bg : jis V111 (.inl 25) bg := (hbs92_bg.mono hx111.1)
                    have hbq276_se : jis V111 (.inl 41) se := (hbs92_se.mono hx111.1)
                    have hbq276_hx : jis V111 (.inl 26) hx := (hbs92_hx.mono hx111.1)
                    have hOq276_a0 : V111 a0 = some (.inr (5, gs92a0)) := (hx111.2 _ _ hOgs92a0 (jnot_of rfl))
                    have hKq276_a0 : jokO V111 (jFs 5) gs92a0 := (hKgs92a0.mono hx111.1)
                    have haq276_px := (hx111.2 _ _ hAF18n92 (jnot_of rfl))
                    have haq276_py := (hx111.2 _ _ hAF19n92 (jnot_of rfl))
                    have haq276_pz := (hx111.2 _ _ hAF20n92 (jnot_of rfl))
                    have haq276_co := (hx111.2 _ _ hAF23n92 (jnot_of rfl))
                    have haq276_sq := (hx111.2 _ _ hAF46n92 (jnot_of rfl))
                    have haq276_rg := (hx111.2 _ _ hAF24n92 (jnot_of rfl))
                    have haq276_bg := (hx111.2 _ _ hAF25n92 (jnot_of rfl))
                    have haq276_se := (hx111.2 _ _ hAF41n92 (jnot_of rfl))
                    have haq276_hx := (hx111.2 _ _ hAF26n92 (jnot_of rfl))
                    have haq276_kn := (hx111.2 _ _ has92_kn (jnot_of rfl))
                    exact w_X7_counts_z_s276 d V0 a0 x1 x2 rw px py pz kn co sq rg bg se hx RW PX PY PZ KN CO SQ RG BG SE HX Q N i4n92 i5n92 gs92a0 F17n92 F18n92 F19n92 F20n92 F23n92 F46n92 F24n92 F25n92 F41n92 F26n92 y5 y251 y168 y184 y215 y231 y108 y110 y177 y193 y224 V111 G23 G111 hQ hm hall hrow hpl hnd hse hhx hco ho5 ih92 hd hp0 hp1 hp2 hp3 hp4 hp5 hW he hkp hbq276_a0 hbq276_rw hbq276_px hbq276_py hbq276_pz hbq276_kn hbq276_co hbq276_sq hbq276_rg hbq276_bg hbq276_se hbq276_hx hOq276_a0 hKq276_a0 hFgs92a0_4 hFgs92a0_6 hFgs92a0_7 hFgs92a0_8 hFgs92a0_11 hFgs92a0_12 hFgs92a0_13 hFgs92a0_14 hFgs92a0_15 hFgs92a0_16 hFgs92a0_17 haq276_px haq276_py haq276_pz haq276_co haq276_sq haq276_rg haq276_bg haq276_se haq276_hx haq276_kn hA111 he5 he251 he168 he184 he215 he231 he110 hjb hdx hd19 hremQ c94 c98 hb108 e108 hp111 ho111 c123 hq0 e177 e193 e224 hbnd hbsx hbsy hbsz c258 hPJ hnbN hbxN hsb hnin htp
                  · refine J_aload_n dX7_counts_261 rfl ?_
                    refine J_get jf_X7_41 dX7_counts_262 (hx111.2 _ _ hOgs92a0 (jnot_of rfl)) hFgs92a0_12 ?_
                    refine J_iload_n dX7_counts_265 rfl ?_
                    refine Jz_bipush (-5) dX7_counts_266 (by decide) (fun y266 he266 => ?_)
                    refine Jz_iast (r := ((-2147483648), 2147483647)) he5 he266 hW id dX7_counts_268 (hx111.2 _ _ hAF23n92 (jnot_of rfl)) rfl rfl (by omega) (by omega) (by omega) (by omega) (fun V268 G268 hW hx268 hA268 hp268 ho268 => ?_)
                    obtain ⟨hN268, hv268⟩ := WT_rngI (r := ((-2147483648), 2147483647)) hW id rfl hA268
                    clear hN268
                    have he := he.trans (hx268.sub (jsub_of rfl))
                    have hkp := hkp.trans (jkc.of hx268 (jnot_of rfl))
                    refine J_aload_n dX7_counts_269 rfl ?_
                    refine J_iload dX7_counts_270 rfl ?_
                    have hmore := hremQ.fresh (by omega) (fun i hi => (hrow i (by omega)).1) (by omega) (by rw [e108]; omega) (by rw [e108]; omega) (by rw [e108, hPJ]; exact hnin)
                    refine Jw_callV1 (q9 := (RX7, TX7, 34)) moX7_forgets jw_ml_X7_181 jw_im_X7_forgets jw_se_X7_forgets ((hbs92_a0.mono hx111.1).mono hx268.1) rfl rfl dX7_counts_272 (w_X7_forgets_z (d - 1) _ a0 i5n92 px py pz se F18n92 F19n92 F20n92 F41n92 (by omega) hW  ((hbs92_a0.mono hx111.1).mono hx268.1) ⟨_, (hx268.2 _ _ (hx111.2 _ _ hOgs92a0 (jnot_of rfl)) (jnot_of rfl)), hFgs92a0_6⟩ ⟨_, (hx268.2 _ _ (hx111.2 _ _ hOgs92a0 (jnot_of rfl)) (jnot_of rfl)), hFgs92a0_7⟩ ⟨_, (hx268.2 _ _ (hx111.2 _ _ hOgs92a0 (jnot_of rfl)) (jnot_of rfl)), hFgs92a0_8⟩ ⟨_, (hx268.2 _ _ (hx111.2 _ _ hOgs92a0 (jnot_of rfl)) (jnot_of rfl)), hFgs92a0_16⟩ (hx268.2 _ _ (hx111.2 _ _ hAF18n92 (jnot_of rfl)) (jnot_of rfl)) (hx268.2 _ _ (hx111.2 _ _ hAF19n92 (jnot_of rfl)) (jnot_of rfl)) (hx268.2 _ _ (hx111.2 _ _ hAF20n92 (jnot_of rfl)) (jnot_of rfl)) (hx268.2 _ _ (hx111.2 _ _ hAF41n92 (jnot_of rfl)) (jnot_of rfl)) (by omega) (by omega) (fun k hk => (hpl k hk).bx (by omega)) (by have q := hse; rw [show (i5n92.toInt + 1).toNat = i5n92.toInt.toNat + 1 by omega] at q; exact q) hnd) (by omega) (Nat.zero_le _) (Nat.zero_le _) (Nat.le_of_ble_eq_true rfl) (fun r272 V272 h272 => ?_)
                    obtain ⟨h272, hX272_0⟩ := h272
                    obtain ⟨hW, hx272, hr272⟩ := h272
                    have he := he.trans (hx272.sub (jsub_of rfl))
                    have hkp := hkp.trans (jkc.of hx272 (jnot_of rfl))
                    cases hr272
                    obtain ⟨SE272, hSe272, hsn272⟩ := hX272_0
                    obtain ⟨hN_SE272, hv_SE272⟩ := WT_rngI (r := (0, 1)) hW id rfl hSe272
                    clear hN_SE272
                    exact J_ret (r := none) dX7_counts_275 ⟨rfl, rfl⟩ (hQ _ _ (⟨⟨hW, he, rfl⟩, ⟨G23, G268, F46n92, F24n92, F25n92, SE272, (hx272.2 _ _ (hx268.2 _ _ (hx111.2 _ _ has92_kn (jnot_of rfl)) (jnot_of rfl)) (jnot_of rfl)), (hx272.2 _ _ hA268 (jnot_of rfl)), (hx272.2 _ _ (hx268.2 _ _ (hx111.2 _ _ hAF46n92 (jnot_of rfl)) (jnot_of rfl)) (jnot_of rfl)), (hx272.2 _ _ (hx268.2 _ _ (hx111.2 _ _ hAF24n92 (jnot_of rfl)) (jnot_of rfl)) (jnot_of rfl)), (hx272.2 _ _ (hx268.2 _ _ (hx111.2 _ _ hAF25n92 (jnot_of rfl)) (jnot_of rfl)) (jnot_of rfl)), hSe272, hsn272, (by rw [hp23, he22.eq]), Or.inr ⟨by omega, by rw [hp268, he266.eq]⟩, ho23, (fun j hj => ⟨(ho268 j hj).trans (ho5 j hj).1, (ho5 j hj).2.1, (ho5 j hj).2.2.1, (ho5 j hj).2.2.2⟩)⟩, hkp⟩))
              · refine J_aload_n dX7_counts_126 rfl ?_
                refine J_get jf_X7_55 dX7_counts_127 (hx111.2 _ _ hOgs92a0 (jnot_of rfl)) hFgs92a0_16 ?_
                refine J_aload_n dX7_counts_130 rfl ?_
                refine J_get jf_X7_22 dX7_counts_131 (hx111.2 _ _ hOgs92a0 (jnot_of rfl)) hFgs92a0_6 ?_
                refine J_iload dX7_counts_134 rfl ?_
                refine Jz_iald (r := ((-2147483648), 2147483647)) jEq.rf dX7_counts_136 (hx111.2 _ _ hAF18n92 (jnot_of rfl)) rfl hvF18n92 (by omega) (by omega) (fun y136 hf136 hl136 hh136 => ?_)
                dsimp only at hl136 hh136
                clear hl136 hh136
                have e136 : (F18n92 i5n92.toInt.toNat).toInt = y136.toInt := by rw [hf136]
                refine J_aload_n dX7_counts_137 rfl ?_
                refine J_get jf_X7_25 dX7_counts_138 (hx111.2 _ _ hOgs92a0 (jnot_of rfl)) hFgs92a0_7 ?_
                refine J_iload dX7_counts_141 rfl ?_
                refine Jz_iald (r := ((-2147483648), 2147483647)) jEq.rf dX7_counts_143 (hx111.2 _ _ hAF19n92 (jnot_of rfl)) rfl hvF19n92 (by omega) (by omega) (fun y143 hf143 hl143 hh143 => ?_)
                dsimp only at hl143 hh143
                clear hl143 hh143
                have e143 : (F19n92 i5n92.toInt.toNat).toInt = y143.toInt := by rw [hf143]
                refine J_aload_n dX7_counts_144 rfl ?_
                refine J_get jf_X7_28 dX7_counts_145 (hx111.2 _ _ hOgs92a0 (jnot_of rfl)) hFgs92a0_8 ?_
                refine J_iload dX7_counts_148 rfl ?_
                refine Jz_iald (r := ((-2147483648), 2147483647)) jEq.rf dX7_counts_150 (hx111.2 _ _ hAF20n92 (jnot_of rfl)) rfl hvF20n92 (by omega) (by omega) (fun y150 hf150 hl150 hh150 => ?_)
                dsimp only at hl150 hh150
                clear hl150 hh150
                have e150 : (F20n92 i5n92.toInt.toNat).toInt = y150.toInt := by rw [hf150]
                refine J_callS3 moX7_spot jw_ml_X7_177 jw_st_X7_spot dX7_counts_151 (w_X7_spot_z (d - 1) _ y136 y143 y150 (by omega)   (by omega) (by omega) (by omega) (by omega) (by omega) (by omega)) (by omega) (Nat.zero_le _) (Nat.zero_le _) (Nat.le_of_ble_eq_true rfl) (fun r151 V151 h151 => ?_)
                obtain ⟨⟨y151, rfl, hl151, hh151, hP151_0⟩, hE151⟩ := h151
                have hE151 := hE151.symm
                subst hE151
                clear hl151 hh151
                have hz151 : jEq y151.toInt (jspot ((y136.toInt), (y143.toInt), (y150.toInt))) := hP151_0
                clear hP151_0
                have hPD : (jPf F18n92 F19n92 F20n92) i5n92.toInt.toNat = (y136.toInt, y143.toInt, y150.toInt) := by unfold jPf; rw [e136, e143, e150]
                have hsb := jspot_b (p := (y136.toInt, y143.toInt, y150.toInt)) (by rw [← hPD]; exact hbxD)
                refine Jz_iconst 0 dX7_counts_154 (by decide) (fun y154 he154 => ?_)
                refine Jz_zast (r := (0, 1)) hz151 he154 hW id dX7_counts_155 (hx111.2 _ _ hAF41n92 (jnot_of rfl)) rfl rfl (by omega) (by omega) (by omega) (by omega) (fun _ h => vp_nar_b (by omega) (by omega)) (fun V155 G155 hW hx155 hA155 hp155 ho155 => ?_)
                obtain ⟨hN155, hv155⟩ := WT_rngI (r := (0, 1)) hW id rfl hA155
                clear hN155
                have he := he.trans (hx155.sub (jsub_of rfl))
                have hkp := hkp.trans (jkc.of hx155 (jnot_of rfl))
                refine Jz_iinc (-1) dX7_counts_156 rfl rfl (by decide) jEq.rf (by decide) (by omega) (by omega) (fun y156 he156 => ?_)
                refine J_goto (tgt := 92) dX7_counts_159 (by decide) ?_
                have hm0 : (F17n92 i5n92.toInt.toNat).toInt = y108.toInt := e108
                have hm1 : -1 ≤ (G111 (i5n92.toInt + (-1)).toNat).toInt := (Int.decLt i5n92.toInt 1).byCases (fun hz => by rw [show (i5n92.toInt + (-1)).toNat = i5n92.toInt.toNat by omega, hp111, he110.eq]; omega) (fun hz => by rw [ho111 _ (by omega)]; exact (hrow _ (by omega)).1)
                have hrem2 : 1 ≤ x2.toInt → jrS x1.toInt x2.toInt.toNat y156.toInt i4n92.toInt (jac F23n92 F46n92 F24n92 F25n92 (21 * x1.toInt + x2.toInt).toNat) F18n92 F19n92 F20n92 G111 := fun _ => by
                  rw [he156.eq]
                  exact hremQ.out (by omega) (by rw [e108]; omega) ho111
                have hse2 : jsn G155 (jplb (jPf F18n92 F19n92 F20n92) (y156.toInt + 1).toNat) := by
                  rw [he156.eq, show (i5n92.toInt + (-1) + 1).toNat = i5n92.toInt.toNat by omega]
                  have q := hse
                  rw [show (i5n92.toInt + 1).toNat = i5n92.toInt.toNat + 1 by omega, jplb_succ] at q
                  refine q.clr (fun z => ?_) hbxD ?_ (fun k hk => ho155 k (by rw [hPD] at hk; exact hk))
                  · obtain ⟨i, hi, e⟩ := (jplb_mem _).mp z
                    exact hnd i i5n92.toInt.toNat hi (by omega) e
                  · rw [hPD, hp155, he154.eq]
                refine J.mask [true, true, true, true, true, true, false, false, false, false] ?_
                exact ih92 _ i4n92 y156 gs92a0 G111 F18n92 F19n92 F20n92 F23n92 F46n92 F24n92 F25n92 G155 F26n92 hW he ((hbs92_a0.mono hx111.1).mono hx155.1) ((hbs92_rw.mono hx111.1).mono hx155.1) ((hbs92_px.mono hx111.1).mono hx155.1) ((hbs92_py.mono hx111.1).mono hx155.1) ((hbs92_pz.mono hx111.1).mono hx155.1) ((hbs92_kn.mono hx111.1).mono hx155.1) ((hbs92_co.mono hx111.1).mono hx155.1) ((hbs92_sq.mono hx111.1).mono hx155.1) ((hbs92_rg.mono hx111.1).mono hx155.1) ((hbs92_bg.mono hx111.1).mono hx155.1) ((hbs92_se.mono hx111.1).mono hx155.1) ((hbs92_hx.mono hx111.1).mono hx155.1) hkp (hx155.2 _ _ (hx111.2 _ _ hOgs92a0 (jnot_of rfl)) (jnot_of rfl)) hFgs92a0_4 hFgs92a0_6 hFgs92a0_7 hFgs92a0_8 hFgs92a0_11 hFgs92a0_12 hFgs92a0_13 hFgs92a0_14 hFgs92a0_15 hFgs92a0_16 hFgs92a0_17 (hx155.2 _ _ hA111 (jnot_of rfl)) (hx155.2 _ _ (hx111.2 _ _ hAF18n92 (jnot_of rfl)) (jnot_of rfl)) (hx155.2 _ _ (hx111.2 _ _ hAF19n92 (jnot_of rfl)) (jnot_of rfl)) (hx155.2 _ _ (hx111.2 _ _ hAF20n92 (jnot_of rfl)) (jnot_of rfl)) (hx155.2 _ _ (hx111.2 _ _ hAF23n92 (jnot_of rfl)) (jnot_of rfl)) (hx155.2 _ _ (hx111.2 _ _ hAF46n92 (jnot_of rfl)) (jnot_of rfl)) (hx155.2 _ _ (hx111.2 _ _ hAF24n92 (jnot_of rfl)) (jnot_of rfl)) (hx155.2 _ _ (hx111.2 _ _ hAF25n92 (jnot_of rfl)) (jnot_of rfl)) hA155 (hx155.2 _ _ (hx111.2 _ _ hAF26n92 (jnot_of rfl)) (jnot_of rfl)) (hx155.2 _ _ (hx111.2 _ _ has92_kn (jnot_of rfl)) (jnot_of rfl)) (by (try simp only [he156.eq, true_and, and_true]) <;> omega) (by (try simp only [he156.eq, true_and, and_true]) <;> omega) (fun k hk => by rw [he156.eq] at hk; rw [ho111 k (by omega)]; exact hrow k (by omega)) (fun k hk => hpl k (by rw [he156.eq] at hk; omega)) (fun i k h1 h2 => hnd i k h1 (by rw [he156.eq] at h2; omega)) hse2 (fun k hk => hhx k (by rw [he156.eq] at hk; omega)) hrem2 (by (try simp only [he156.eq, true_and, and_true]) <;> omega) (fun q => absurd q (by omega)) ho5 (by (try simp only [he156.eq, true_and, and_true]) <;> omega)
      refine J.mask [true, true, true, true, true, true, false, false, false, false] ?_
      exact L92 _ _ y39 y42 fs_a0 G51 G58 G65 G72 G38 SQ RG BG G84 G91 hW he hbs92_a0 hbs92_rw hbs92_px hbs92_py hbs92_pz hbs92_kn hbs92_co hbs92_sq hbs92_rg hbs92_bg hbs92_se hbs92_hx hkp hOs92_a0 hF_rw hF_px hF_py hF_pz hF_kn hF_co hF_sq hF_rg hF_bg hF_se hF_hx has92_rw has92_px has92_py has92_pz has92_co has92_sq has92_rg has92_bg has92_se hA91 has92_kn (by (try simp only [he39.eq, he42.eq, true_and, and_true]) <;> omega) (by (try simp only [he39.eq, he42.eq, true_and, and_true]) <;> omega) (fun k hk => by rw [he42.eq] at hk; rw [show k = Int.toNat 0 by omega, hp51, he50.eq]; omega) (fun k hk => by rw [he42.eq] at hk; rw [show k = 0 by omega, hP0]; exact jnb.zero) (fun i k h1 h2 => by rw [he42.eq] at h2; omega) (by rw [he42.eq, show ((0 : Int) + 1).toNat = 1 from rfl]; show jsn G84 [jPf G58 G65 G72 0]; rw [hP0]; exact hsn84) (fun k hk => by rw [he42.eq] at hk; rw [show k = Int.toNat 0 by omega, hp91, he90.eq]; rfl) (fun q => by rw [he42.eq, he39.eq, show jac G38 SQ RG BG (21 * x1.toInt + x2.toInt).toNat = jZ4 by unfold jac; rw [hp38, hu2, hu3, hu4, show t0k38.toInt = 0 by omega]; rfl]; exact jrS.init (by omega) hP0 ((congrArg Int32.toInt hp51).trans he50.eq)) (by rw [hp38, he39.eq]; omega) (fun q => ⟨by rw [hp38]; omega, hu2, hu3, hu4, he42.eq⟩) (fun j hj => ⟨ho38 j hj, rfl, rfl, rfl⟩) (Nat.lt_succ_self _)
    refine Jz_if_ne (tgt := 37) jEq.rf dX7_counts_30 (by decide) (fun c30 => ?_) (fun c30 => ?_)
    · refine Jz_iconst 0 dX7_counts_37 (by decide) (fun y37 he37 => ?_)
      exact K38  y37  (by (try simp only [he37.eq, true_and, and_true]) <;> omega)
    · refine Jz_iconst 1 dX7_counts_33 (by decide) (fun y33 he33 => ?_)
      refine J_goto (tgt := 38) dX7_counts_34 (by decide) ?_
      exact K38  y33  (by (try simp only [he33.eq, true_and, and_true]) <;> omega)
  · exact J_ret (r := none) dX7_counts_16 ⟨rfl, rfl⟩ (hQ _ _ (⟨⟨hW, he, rfl⟩, ⟨KN, CO, SQ, RG, BG, SE, ha_KN, ha_CO, ha_SQ, ha_RG, ha_BG, ha_SE, hp4, (hp5.kn (by rw [e12]; omega)).1, (hp5.kn (by rw [e12]; omega)).2, fun _ _ => rfl, jot.rf⟩, hkp⟩))
