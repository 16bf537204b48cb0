set_option maxRecDepth 100000 in
set_option maxHeartbeats 8000000 in
theorem w_X5_markWalks_z {tS : jTS} : ∀ (K d : Nat) (V0 : jH) (a0 : Nat) (a1 : Nat) (x2 : Int32) (x3 : Int32) (sn : Int32) (b : Int32) (M : Int32) (g : Int32) (n : Int32) (st : Nat) (s : Nat) (xx : Nat) (yy : Nat) (zz : Nat) (R : Nat) (ST : Nat → Int32) (S : Nat → Int32) (X : Nat → Int32) (Y : Nat → Int32) (Z : Nat → Int32), 4 + K ≤ d → WT V0 → (jis V0 (.inr 3) a0) → (jis V0 (.inr 1) a1) → (0 ≤ x2.toInt) → (x2.toInt ≤ 6) → (jfI V0 a0 3 1 sn) → (jfI V0 a0 3 2 b) → (jfI V0 a1 1 0 M) → (jfI V0 a1 1 5 g) → (jfI V0 a1 1 6 n) → (jfR V0 a0 3 3 st) → (jfR V0 a1 1 1 s) → (jfR V0 a1 1 2 xx) → (jfR V0 a1 1 3 yy) → (jfR V0 a1 1 4 zz) → (V0 st = some (.inl (3, R, .inl ST))) → (V0 s = some (.inl (6, 120, .inl S))) → (V0 xx = some (.inl (34, 121, .inl X))) → (V0 yy = some (.inl (35, 121, .inl Y))) → (V0 zz = some (.inl (36, 121, .inl Z))) → (M.toInt = 120) → (0 ≤ g.toInt) → (g.toInt ≤ 3) → (b.toInt = jdir g.toInt) → (n.toInt = x2.toInt) → (x2.toInt ≤ sn.toInt) → (sn.toInt ≤ 6) → (0 ≤ x3.toInt) → ((R : Int) ≤ 10000) → (R = (jdir g.toInt).toNat ^ sn.toInt.toNat) → (x3.toInt.toNat < (jdir g.toInt).toNat ^ x2.toInt.toNat) → (∀ i : Nat, (i : Int) < x2.toInt → (S i).toInt = jdg9 (jdir g.toInt).toNat x2.toInt.toNat x3.toInt.toNat i) → (jrv g.toInt (fun q => (S q).toInt) n.toInt.toNat X Y Z) → (jav g.toInt (fun q => (S q).toInt) n.toInt.toNat) → (7 - x2.toInt).toNat < K → jTot tS mX5_markWalks d [.ref a0, .ref a1, .int x2, .int x3] V0 0 0 (fun r V => (jPost [.inr 1, .inl 6, .inl 34, .inl 35, .inl 36, .inl 3] V0 rV) r V ∧ (∃ ST2 S2 X2 Y2 Z2 : Nat → Int32, V st = some (.inl (3, R, .inl ST2)) ∧ V s = some (.inl (6, 120, .inl S2)) ∧ V xx = some (.inl (34, 121, .inl X2)) ∧ V yy = some (.inl (35, 121, .inl Y2)) ∧ V zz = some (.inl (36, 121, .inl Z2)) ∧ (∀ j : Nat, (j : Int) < n.toInt → S2 j = S j) ∧ (∀ j : Nat, (j : Int) ≤ n.toInt → X2 j = X j ∧ Y2 j = Y j ∧ Z2 j = Z j) ∧ jmw g.toInt (jdir g.toInt).toNat sn.toInt.toNat (sn.toInt - x2.toInt).toNat x3.toInt.toNat (x3.toInt.toNat + 1) ST ST2) ∧ jrk a1 V0 V ∧ jfp [a1, s, xx, yy, zz, st] V0 V ∧ (∃ n2 : Int32, jfI V a1 1 6 n2 ∧ (n2.toInt = n.toInt)) ∧ (∃ M2 : Int32, jfI V a1 1 0 M2 ∧ (M2.toInt = M.toInt)) ∧ (∃ g2 : Int32, jfI V a1 1 5 g2 ∧ (g2.toInt = g.toInt))) := by
  intro K
  induction K with
  | zero => intro d V0 a0 a1 x2 x3 sn b M g n st s xx yy zz R ST S X Y Z hd hW ha0 ha1 hl2 hh2 hf_sn hf_b hf_M hf_g hf_n hr_st hr_s hr_xx hr_yy hr_zz ha_ST ha_S ha_X ha_Y ha_Z hp0 hp1 hp2 hp3 hp4 hp5 hp6 hp7 hp8 hp9 hp10 hp11 hp12 hp13 hrk; exact absurd hrk (Nat.not_lt_zero _)
  | succ K IH =>
  intro d V0 a0 a1 x2 x3 sn b M g n st s xx yy zz R ST S X Y Z hd hW ha0 ha1 hl2 hh2 hf_sn hf_b hf_M hf_g hf_n hr_st hr_s hr_xx hr_yy hr_zz ha_ST ha_S ha_X ha_Y ha_Z hp0 hp1 hp2 hp3 hp4 hp5 hp6 hp7 hp8 hp9 hp10 hp11 hp12 hp13 hrk
  refine jTot.of_J [some (.ref a0), some (.ref a1), some (.int x2), some (.int x3), none] moX5_markWalks (Nat.le_of_ble_eq_true rfl) rfl ?_
  have hrx3 := j_rng x3
  have he : jeff [.inr 1, .inl 6, .inl 34, .inl 35, .inl 36, .inl 3] V0 V0 := jeff.refl _ _
  have hfp : jfp [a1, s, xx, yy, zz, st] V0 V0 := jfp.rf
  obtain ⟨fs_a0, hO_a0, hK_a0⟩ := WT_obj hW id ha0
  obtain ⟨fs_a1, hO_a1, hK_a1⟩ := WT_obj hW id ha1
  have hF_sn := hf_sn.get hO_a0
  have hrsn : 0 ≤ sn.toInt ∧ sn.toInt ≤ 6 := jok_rngI hK_a0 rfl hF_sn
  have hF_b := hf_b.get hO_a0
  have hrb : (-2147483648) ≤ b.toInt ∧ b.toInt ≤ 2147483647 := jok_rngI hK_a0 rfl hF_b
  have hF_M := hf_M.get hO_a1
  have hrM : 0 ≤ M.toInt ∧ M.toInt ≤ 120 := jok_rngI hK_a1 rfl hF_M
  have hF_g := hf_g.get hO_a1
  have hrg : (-2147483648) ≤ g.toInt ∧ g.toInt ≤ 2147483647 := jok_rngI hK_a1 rfl hF_g
  have hF_n := hf_n.get hO_a1
  have hrn : 0 ≤ n.toInt ∧ n.toInt ≤ 120 := jok_rngI hK_a1 rfl hF_n
  have hF_st := hr_st.get hO_a0
  obtain ⟨w_st, hFq_st, b_st, hbq_st, hb_st⟩ := hK_a0.2 3 (.inr (some (.inl 3))) rfl
  cases hF_st.symm.trans (hFq_st.trans (congrArg some hbq_st))
  have hF_s := hr_s.get hO_a1
  obtain ⟨w_s, hFq_s, b_s, hbq_s, hb_s⟩ := hK_a1.2 1 (.inr (some (.inl 6))) rfl
  cases hF_s.symm.trans (hFq_s.trans (congrArg some hbq_s))
  have hF_xx := hr_xx.get hO_a1
  obtain ⟨w_xx, hFq_xx, b_xx, hbq_xx, hb_xx⟩ := hK_a1.2 2 (.inr (some (.inl 34))) rfl
  cases hF_xx.symm.trans (hFq_xx.trans (congrArg some hbq_xx))
  have hF_yy := hr_yy.get hO_a1
  obtain ⟨w_yy, hFq_yy, b_yy, hbq_yy, hb_yy⟩ := hK_a1.2 3 (.inr (some (.inl 35))) rfl
  cases hF_yy.symm.trans (hFq_yy.trans (congrArg some hbq_yy))
  have hF_zz := hr_zz.get hO_a1
  obtain ⟨w_zz, hFq_zz, b_zz, hbq_zz, hb_zz⟩ := hK_a1.2 4 (.inr (some (.inl 36))) rfl
  cases hF_zz.symm.trans (hFq_zz.trans (congrArg some hbq_zz))
  obtain ⟨hN_ST, hv_ST⟩ := WT_rngI (r := ((-128), 127)) hW id rfl ha_ST
  clear hN_ST
  obtain ⟨hN_S, hv_S⟩ := WT_rngI (r := ((-2147483648), 2147483647)) hW id rfl ha_S
  clear hN_S
  obtain ⟨hN_X, hv_X⟩ := WT_rngI (r := ((-2147483648), 2147483647)) hW id rfl ha_X
  clear hN_X
  obtain ⟨hN_Y, hv_Y⟩ := WT_rngI (r := ((-2147483648), 2147483647)) hW id rfl ha_Y
  clear hN_Y
  obtain ⟨hN_Z, hv_Z⟩ := WT_rngI (r := ((-2147483648), 2147483647)) hW id rfl ha_Z
  clear hN_Z
  have ha0_S := ha_S
  have ha0_X := ha_X
  have ha0_Y := ha_Y
  have ha0_Z := ha_Z
  have ha0_ST := ha_ST
  have hjb : 3 ≤ jdir g.toInt ∧ jdir g.toInt ≤ 6 := by have q := jdir_cases g.toInt; omega
  have hDn : (((jdir g.toInt).toNat : Nat) : Int) = jdir g.toInt := Int.toNat_of_nonneg (by omega)
  have hD0 : 0 < (jdir g.toInt).toNat := by omega
  refine J_iload_n dX5_markWalks_0 rfl ?_
  refine J_aload_n dX5_markWalks_1 rfl ?_
  refine J_get jf_X5_31 dX5_markWalks_2 hO_a0 hF_sn ?_
  refine Jz_icmp_ge (tgt := 14) jEq.rf jEq.rf dX5_markWalks_5 (by decide) (fun c5 => ?_) (fun c5 => ?_)
  · have hx2e : x2.toInt = sn.toInt := by omega
    have hxR : x3.toInt < (R : Int) := by have q := hp10; rw [hx2e, ← hp9] at q; omega
    have hwk : jwlk g.toInt (jdir g.toInt).toNat sn.toInt.toNat x3.toInt.toNat := by
      have q := hp13.congr (U := jdg9 (jdir g.toInt).toNat x2.toInt.toNat x3.toInt.toNat) (fun k hk => hp11 k (by omega))
      rw [show n.toInt.toNat = x2.toInt.toNat by omega, hx2e] at q
      exact q
    refine J_iload_n dX5_markWalks_14 rfl ?_
    refine Jz_if_lt (tgt := 34) jEq.rf dX5_markWalks_15 (by decide) (fun c15 => (show False by omega).elim) (fun c15 => ?_)
    refine J_iload_n dX5_markWalks_18 rfl ?_
    refine J_aload_n dX5_markWalks_19 rfl ?_
    refine J_get jf_X5_43 dX5_markWalks_20 hO_a0 hF_st ?_
    refine J_alen dX5_markWalks_23 ha_ST rfl rfl ?_
    have he23 : jEq (Int32.ofNat R).toInt R := nI_toInt (by omega)
    generalize Int32.ofNat R = y23 at he23 ⊢
    refine Jz_icmp_ge (tgt := 34) jEq.rf he23 dX5_markWalks_24 (by decide) (fun c24 => (show False by omega).elim) (fun c24 => ?_)
    refine J_aload_n dX5_markWalks_27 rfl ?_
    refine J_get jf_X5_43 dX5_markWalks_28 hO_a0 hF_st ?_
    refine J_iload_n dX5_markWalks_31 rfl ?_
    refine Jz_iconst 1 dX5_markWalks_32 (by decide) (fun y32 he32 => ?_)
    refine Jz_bastB (r := ((-128), 127)) jEq.rf he32 hW id dX5_markWalks_33 ha_ST rfl rfl (by omega) (by omega) (by omega) (by omega) (fun q h => by rw [jI_inj.mp (show q.toInt = (1 : Int32).toInt from h)]; rfl) (fun V33 G33 hW hx33 hA33 hp33 ho33 hB33 => ?_)
    obtain ⟨hN33, hv33⟩ := WT_rngI (r := ((-128), 127)) hW id rfl hA33
    clear hN33
    have he := he.trans (hx33.sub (jsub_of rfl))
    have hfp := hfp.trans (jfp.one hB33 (List.mem_cons_of_mem _ (List.mem_cons_of_mem _ (List.mem_cons_of_mem _ (List.mem_cons_of_mem _ (List.mem_cons_of_mem _ List.mem_cons_self))))))
    have ha0 := ha0.mono hx33.1
    have ha1 := ha1.mono hx33.1
    have hb_st := hb_st.mono hx33.1
    have hb_s := hb_s.mono hx33.1
    have hb_xx := hb_xx.mono hx33.1
    have hb_yy := hb_yy.mono hx33.1
    have hb_zz := hb_zz.mono hx33.1
    have hO_a0 := hx33.2 _ _ hO_a0 (jnot_of rfl)
    have hK_a0 := hK_a0.mono hx33.1
    have hO_a1 := hx33.2 _ _ hO_a1 (jnot_of rfl)
    have hK_a1 := hK_a1.mono hx33.1
    have ha_S := hx33.2 _ _ ha_S (jnot_of rfl)
    have ha_X := hx33.2 _ _ ha_X (jnot_of rfl)
    have ha_Y := hx33.2 _ _ ha_Y (jnot_of rfl)
    have ha_Z := hx33.2 _ _ ha_Z (jnot_of rfl)
    exact J_ret (r := none) dX5_markWalks_34 ⟨rfl, rfl⟩ (⟨⟨hW, he, rfl⟩, ⟨G33, S, X, Y, Z, hA33, ha_S, ha_X, ha_Y, ha_Z, fun _ _ => rfl, fun _ _ => ⟨rfl, rfl, rfl⟩, (by rw [show (sn.toInt - x2.toInt).toNat = 0 by omega]; exact jmw.leaf hwk (by rw [hp33, he32.eq]) ho33)⟩, (jrk.mk2 hr_s hr_xx hr_yy hr_zz (fun b9 e9 hb9 h9 hk9 => (hfp b9 (fun z => (jmem6 z).elim hb9 (fun w => by rw [w, ha0_ST] at h9; cases h9; exact absurd hk9 (jnot_of rfl)))).trans h9) hf_M ⟨_, hO_a1, hF_M⟩ (jk1.mk ha0_S ha_S) (jk0.mk ha0_X ha_X rfl) (jk0.mk ha0_Y ha_Y rfl) (jk0.mk ha0_Z ha_Z rfl)), hfp, ⟨_, ⟨_, hO_a1, hF_n⟩, (by omega)⟩, ⟨_, ⟨_, hO_a1, hF_M⟩, (by omega)⟩, ⟨_, ⟨_, hO_a1, hF_g⟩, (by omega)⟩⟩)
  · refine J_iload_n dX5_markWalks_8 rfl ?_
    refine Jz_bipush 6 dX5_markWalks_9 (by decide) (fun y9 he9 => ?_)
    refine Jz_icmp_lt (tgt := 35) jEq.rf he9 dX5_markWalks_11 (by decide) (fun c11 => ?_) (fun c11 => (show False by omega).elim)
    refine Jz_iconst 0 dX5_markWalks_35 (by decide) (fun y35 he35 => ?_)
    refine J_istore dX5_markWalks_36 rfl (by decide) ?_
    have L38 : ∀ (N : Nat) (V : jH) (i4n38 : Int32) (gs38a1 : List Value) (g6n38 : Int32) (F3n38 : Nat → Int32) (F6n38 : Nat → Int32) (F34n38 : Nat → Int32) (F35n38 : Nat → Int32) (F36n38 : Nat → Int32), WT V → jeff [.inr 1, .inl 6, .inl 34, .inl 35, .inl 36, .inl 3] V0 V → (jis V (.inr 3) a0) → (jis V (.inr 1) a1) → (jis V (.inl 3) st) → (jis V (.inl 6) s) → (jis V (.inl 34) xx) → (jis V (.inl 35) yy) → (jis V (.inl 36) zz) → (jfp [a1, s, xx, yy, zz, st] V0 V) → (V a0 = some (.inr (3, fs_a0))) → (jokO V (jFs 3) fs_a0) → (V a1 = some (.inr (1, gs38a1))) → (gs38a1[0]? = some (.int M)) → (gs38a1[5]? = some (.int g)) → (gs38a1[6]? = some (.int g6n38)) → (gs38a1[1]? = some (.ref s)) → (gs38a1[2]? = some (.ref xx)) → (gs38a1[3]? = some (.ref yy)) → (gs38a1[4]? = some (.ref zz)) → (V st = some (.inl (3, R, .inl F3n38))) → (V s = some (.inl (6, 120, .inl F6n38))) → (V xx = some (.inl (34, 121, .inl F34n38))) → (V yy = some (.inl (35, 121, .inl F35n38))) → (V zz = some (.inl (36, 121, .inl F36n38))) → (0 ≤ i4n38.toInt ∧ i4n38.toInt ≤ jdir g.toInt) → (g6n38.toInt = x2.toInt) → (∀ j : Nat, (j : Int) < x2.toInt → F6n38 j = S j) → (∀ j : Nat, (j : Int) ≤ x2.toInt → F34n38 j = X j ∧ F35n38 j = Y j ∧ F36n38 j = Z j) → (jmw g.toInt (jdir g.toInt).toNat sn.toInt.toNat (sn.toInt - x2.toInt - 1).toNat (x3.toInt.toNat * (jdir g.toInt).toNat) (x3.toInt.toNat * (jdir g.toInt).toNat + i4n38.toInt.toNat) ST F3n38) → (300 - i4n38.toInt).toNat < N → J tS mX5_markWalks d 38 [some (.ref a0), some (.ref a1), some (.int x2), some (.int x3), some (.int i4n38)] [] V 0 0 (fun r V => (jPost [.inr 1, .inl 6, .inl 34, .inl 35, .inl 36, .inl 3] V0 rV) r V ∧ (∃ ST2 S2 X2 Y2 Z2 : Nat → Int32, V st = some (.inl (3, R, .inl ST2)) ∧ V s = some (.inl (6, 120, .inl S2)) ∧ V xx = some (.inl (34, 121, .inl X2)) ∧ V yy = some (.inl (35, 121, .inl Y2)) ∧ V zz = some (.inl (36, 121, .inl Z2)) ∧ (∀ j : Nat, (j : Int) < n.toInt → S2 j = S j) ∧ (∀ j : Nat, (j : Int) ≤ n.toInt → X2 j = X j ∧ Y2 j = Y j ∧ Z2 j = Z j) ∧ jmw g.toInt (jdir g.toInt).toNat sn.toInt.toNat (sn.toInt - x2.toInt).toNat x3.toInt.toNat (x3.toInt.toNat + 1) ST ST2) ∧ jrk a1 V0 V ∧ jfp [a1, s, xx, yy, zz, st] V0 V ∧ (∃ n2 : Int32, jfI V a1 1 6 n2 ∧ (n2.toInt = n.toInt)) ∧ (∃ M2 : Int32, jfI V a1 1 0 M2 ∧ (M2.toInt = M.toInt)) ∧ (∃ g2 : Int32, jfI V a1 1 5 g2 ∧ (g2.toInt = g.toInt))) := by
      intro N
      induction N with
      | zero => intro V i4n38 gs38a1 g6n38 F3n38 F6n38 F34n38 F35n38 F36n38 hW he ha0 ha1 hb_st hb_s hb_xx hb_yy hb_zz hfp hO_a0 hK_a0 hOgs38a1 hFgs38a1_0 hFgs38a1_5 hFgs38a1_6 hFgs38a1_1 hFgs38a1_2 hFgs38a1_3 hFgs38a1_4 hAF3n38 hAF6n38 hAF34n38 hAF35n38 hAF36n38 hi4 hsz hS hXYZ hmw hm; exact absurd hm (Nat.not_lt_zero _)
      | succ N ih =>
        intro V i4n38 gs38a1 g6n38 F3n38 F6n38 F34n38 F35n38 F36n38 hW he ha0 ha1 hb_st hb_s hb_xx hb_yy hb_zz hfp hO_a0 hK_a0 hOgs38a1 hFgs38a1_0 hFgs38a1_5 hFgs38a1_6 hFgs38a1_1 hFgs38a1_2 hFgs38a1_3 hFgs38a1_4 hAF3n38 hAF6n38 hAF34n38 hAF35n38 hAF36n38 hi4 hsz hS hXYZ hmw hm
        have ih38 := ih
        have hri4 := j_rng i4n38
        have hKgs38a1 : jokO V (jFs 1) gs38a1 := hW _ _ id hOgs38a1
        have hrgg6n38 : 0 ≤ g6n38.toInt ∧ g6n38.toInt ≤ 120 := jok_rngI hKgs38a1 rfl hFgs38a1_6
        obtain ⟨hNF3n38, hvF3n38⟩ := WT_rngI (r := ((-128), 127)) hW id rfl hAF3n38
        clear hNF3n38
        obtain ⟨hNF6n38, hvF6n38⟩ := WT_rngI (r := ((-2147483648), 2147483647)) hW id rfl hAF6n38
        clear hNF6n38
        obtain ⟨hNF34n38, hvF34n38⟩ := WT_rngI (r := ((-2147483648), 2147483647)) hW id rfl hAF34n38
        clear hNF34n38
        obtain ⟨hNF35n38, hvF35n38⟩ := WT_rngI (r := ((-2147483648), 2147483647)) hW id rfl hAF35n38
        clear hNF35n38
        obtain ⟨hNF36n38, hvF36n38⟩ := WT_rngI (r := ((-2147483648), 2147483647)) hW id rfl hAF36n38
        clear hNF36n38
        refine J_iload dX5_markWalks_38 rfl ?_
        refine J_aload_n dX5_markWalks_40 rfl ?_
        refine J_get jf_X5_40 dX5_markWalks_41 hO_a0 hF_b ?_
        refine Jz_icmp_ge (tgt := 84) jEq.rf jEq.rf dX5_markWalks_44 (by decide) (fun c44 => ?_) (fun c44 => ?_)
        · exact J_ret (r := none) dX5_markWalks_84 ⟨rfl, rfl⟩ (⟨⟨hW, he, rfl⟩, ⟨F3n38, F6n38, F34n38, F35n38, F36n38, hAF3n38, hAF6n38, hAF34n38, hAF35n38, hAF36n38, fun j hj => hS j (by omega), fun j hj => hXYZ j (by omega), (by rw [show (sn.toInt - x2.toInt).toNat = (sn.toInt - x2.toInt - 1).toNat + 1 by omega]; exact jmw.up hD0 (by have q := hmw; rw [show i4n38.toInt.toNat = (jdir g.toInt).toNat by omega] at q; exact q))⟩, (jrk.mk2 hr_s hr_xx hr_yy hr_zz (fun b9 e9 hb9 h9 hk9 => (hfp b9 (fun z => (jmem6 z).elim hb9 (fun w => by rw [w, ha0_ST] at h9; cases h9; exact absurd hk9 (jnot_of rfl)))).trans h9) hf_M ⟨_, hOgs38a1, hFgs38a1_0⟩ (jk1.mk ha0_S hAF6n38) (jk0.mk ha0_X hAF34n38 ((hXYZ 0 (by omega)).1)) (jk0.mk ha0_Y hAF35n38 ((hXYZ 0 (by omega)).2.1)) (jk0.mk ha0_Z hAF36n38 ((hXYZ 0 (by omega)).2.2))), hfp, ⟨_, ⟨_, hOgs38a1, hFgs38a1_6⟩, (by omega)⟩, ⟨_, ⟨_, hOgs38a1, hFgs38a1_0⟩, (by omega)⟩, ⟨_, ⟨_, hOgs38a1, hFgs38a1_5⟩, (by omega)⟩⟩)
        · refine J_aload_n dX5_markWalks_47 rfl ?_
          refine J_iload dX5_markWalks_48 rfl ?_
          have hN9 : g6n38.toInt.toNat = x2.toInt.toNat := by rw [hsz]
          have hjv2 : jrv g.toInt (fun q => (F6n38 q).toInt) g6n38.toInt.toNat F34n38 F35n38 F36n38 := jrv.copy hp12 (by omega) (fun q hq => (congrArg Int32.toInt (hS q (by omega))).symm) (fun i hi => hXYZ i (by omega))
          have hja2 : jav g.toInt (fun q => (F6n38 q).toInt) g6n38.toInt.toNat := by
            rw [show g6n38.toInt.toNat = n.toInt.toNat by omega]
            exact hp13.congr (fun q hq => (congrArg Int32.toInt (hS q (by omega))).symm)
          have hbx := hjv2.b g6n38.toInt.toNat (Nat.le_refl _)
          have e2 : ((i4n38.toInt.toNat : Nat) : Int) = i4n38.toInt := Int.toNat_of_nonneg (by omega)
          by_cases hcc : jav g.toInt (jsat (fun q => (F6n38 q).toInt) g6n38.toInt.toNat i4n38.toInt) (g6n38.toInt.toNat + 1)
          · refine Jw_callV1 (q9 := (RX3, TX3, 7)) moX3_lay jw_ml_X5_72 jw_im_X3_lay jw_se_X3_lay ha1 rfl rfl dX5_markWalks_50 (w_X3_lay_yes (d - 1) _ a1 i4n38 M g g6n38 s xx yy zz F6n38 F34n38 F35n38 F36n38 (by omega) hW  ha1 ⟨_, hOgs38a1, hFgs38a1_0⟩ ⟨_, hOgs38a1, hFgs38a1_5⟩ ⟨_, hOgs38a1, hFgs38a1_6⟩ ⟨_, hOgs38a1, hFgs38a1_1⟩ ⟨_, hOgs38a1, hFgs38a1_2⟩ ⟨_, hOgs38a1, hFgs38a1_3⟩ ⟨_, hOgs38a1, hFgs38a1_4⟩ hAF6n38 hAF34n38 hAF35n38 hAF36n38 (by omega) (by omega) (by omega) (by omega) (by omega) (by omega) (by omega) (by omega) (by omega) (by omega) (by omega) (by omega) (by omega) (by omega) (fun j hj => (jnx_iff hjv2 hja2).mpr hcc j (by omega))) (by omega) (Nat.zero_le _) (Nat.zero_le _) (Nat.le_of_ble_eq_true rfl) (fun r50 V50 h50 => ?_)
            obtain ⟨h50, hX50_0, hX50_1, hX50_2, hX50_3, hX50_4, ⟨fv50_0, hfv50_0, hfp50_0⟩, ⟨fv50_1, hfv50_1, hfp50_1⟩, ⟨fv50_2, hfv50_2, hfp50_2⟩⟩ := h50
            obtain ⟨hW, hx50, hr50⟩ := h50
            have he := he.trans (hx50.sub (jsub_of rfl))
            have hfp := hfp.trans (hX50_4.sub (fun b hb => by simp only [List.mem_cons, List.not_mem_nil, or_false] at hb ⊢; first | (rcases hb with h9 | h9 | h9 | h9 | h9 <;> simp only [h9, true_or, or_true]) | omega))
            have ha0 := ha0.mono hx50.1
            have ha1 := ha1.mono hx50.1
            have hb_st := hb_st.mono hx50.1
            have hb_s := hb_s.mono hx50.1
            have hb_xx := hb_xx.mono hx50.1
            have hb_yy := hb_yy.mono hx50.1
            have hb_zz := hb_zz.mono hx50.1
            have hO_a0 := hx50.2 _ _ hO_a0 (jnot_of rfl)
            have hK_a0 := hK_a0.mono hx50.1
            obtain ⟨fs50a1, hOfs50a1, hRfs50a1⟩ := hx50.1.keep hOgs38a1
            have hKfs50a1 : jokO _ (jFs 1) fs50a1 := hW _ _ id hOfs50a1
            have hFfs50a1_1 := hRfs50a1 _ _ hFgs38a1_1
            have hFfs50a1_2 := hRfs50a1 _ _ hFgs38a1_2
            have hFfs50a1_3 := hRfs50a1 _ _ hFgs38a1_3
            have hFfs50a1_4 := hRfs50a1 _ _ hFgs38a1_4
            have hAF3n38 := hx50.2 _ _ hAF3n38 (jnot_of rfl)
            obtain ⟨y50, rfl, hl50, hh50, hP50_0⟩ := hr50
            have hFv50_0 := hfv50_0.get hOfs50a1
            have hzf50_0 : jEq fv50_0.toInt ((g6n38.toInt) + 1) := hfp50_0
            clear hfp50_0
            have hFv50_1 := hfv50_1.get hOfs50a1
            have hsb50_1 : M = fv50_1 := (jI_inj.mp hfp50_1).symm
            subst hsb50_1
            have hFv50_2 := hfv50_2.get hOfs50a1
            have hsb50_2 : g = fv50_2 := (jI_inj.mp hfp50_2).symm
            subst hsb50_2
            obtain ⟨S50, hS50, hSn50, hSo50⟩ := hX50_0
            obtain ⟨X50, hXa50, hXn50, hXo50⟩ := hX50_1
            obtain ⟨Y50, hYa50, hYn50, hYo50⟩ := hX50_2
            obtain ⟨Z50, hZa50, hZn50, hZo50⟩ := hX50_3
            have hlk := jlay_ok hjv2 hSn50 hSo50 hXn50 hYn50 hZn50 hXo50 hYo50 hZo50
            have hsq : ∀ q : Nat, q < x2.toInt.toNat + 1 → jsat (fun q => (S q).toInt) x2.toInt.toNat i4n38.toInt q = (S50 q).toInt := fun q hq => by
              by_cases c : q = x2.toInt.toNat
              · rw [c, jsat_at, ← hN9, hSn50]
              · rw [jsat_ne c]
                show (S q).toInt = (S50 q).toInt
                rw [hSo50 q (by omega), hS q (by omega)]
            have hjc : jav g.toInt (jsat (fun q => (S q).toInt) x2.toInt.toNat i4n38.toInt) (x2.toInt.toNat + 1) := by
              have q := hcc
              rw [hN9] at q
              exact q.congr (jsat_congr (fun q hq => congrArg Int32.toInt (hS q (by omega))))
            obtain ⟨hN_S50, hv_S50⟩ := WT_rngI (r := ((-2147483648), 2147483647)) hW id rfl hS50
            clear hN_S50
            obtain ⟨hN_X50, hv_X50⟩ := WT_rngI (r := ((-2147483648), 2147483647)) hW id rfl hXa50
            clear hN_X50
            obtain ⟨hN_Y50, hv_Y50⟩ := WT_rngI (r := ((-2147483648), 2147483647)) hW id rfl hYa50
            clear hN_Y50
            obtain ⟨hN_Z50, hv_Z50⟩ := WT_rngI (r := ((-2147483648), 2147483647)) hW id rfl hZa50
            clear hN_Z50
            refine Jz_if_eq (tgt := 78) jEq.rf dX5_markWalks_53 (by decide) (fun c53 => (show False by omega).elim) (fun c53 => ?_)
            refine J_aload_n dX5_markWalks_56 rfl ?_
            refine J_aload_n dX5_markWalks_57 rfl ?_
            refine J_iload_n dX5_markWalks_58 rfl ?_
            refine Jz_iconst 1 dX5_markWalks_59 (by decide) (fun y59 he59 => ?_)
            refine Jz_iadd jEq.rf he59 dX5_markWalks_60 (by omega) (by omega) (fun y60 he60 => ?_)
            refine J_iload_n dX5_markWalks_61 rfl ?_
            refine J_aload_n dX5_markWalks_62 rfl ?_
            have hp5b := jpow5 (D := (jdir g.toInt).toNat) (k := x2.toInt.toNat) (by omega) (by omega)
            have hq9 : 0 ≤ x3.toInt * b.toInt ∧ x3.toInt * b.toInt ≤ 46656 := ⟨Int.mul_nonneg (by omega) (by omega), Int.le_trans (Int.mul_le_mul (show x3.toInt ≤ 7776 by omega) (show b.toInt ≤ 6 by omega) (by omega) (by decide)) (by decide)⟩
            have hpq : (x3.toInt * b.toInt + i4n38.toInt).toNat = x3.toInt.toNat * (jdir g.toInt).toNat + i4n38.toInt.toNat := by rw [hp3]; exact jpd_nat (by omega) (by omega) (by omega)
            refine J_get jf_X5_40 dX5_markWalks_63 hO_a0 hF_b ?_
            refine Jz_imul jEq.rf jEq.rf dX5_markWalks_66 (by omega) (by omega) (fun y66 he66 => ?_)
            refine J_iload dX5_markWalks_67 rfl ?_
            refine Jz_iadd he66 jEq.rf dX5_markWalks_69 (by omega) (by omega) (fun y69 he69 => ?_)
            have hpn : y69.toInt.toNat = x3.toInt.toNat * (jdir g.toInt).toNat + i4n38.toInt.toNat := by rw [he69.eq]; exact hpq
            refine J_callS4 moX5_markWalks jw_ml_X5_56 jw_st_X5_markWalks dX5_markWalks_70 (IH (d - 1) _ a0 a1 y60 y69 sn b M g fv50_0 st s xx yy zz R F3n38 S50 X50 Y50 Z50 (by omega) hW ha0 ha1 (by (try simp only [he60.eq, true_and, and_true]) <;> omega) (by (try simp only [he60.eq, true_and, and_true]) <;> omega) ⟨_, hO_a0, hF_sn⟩ ⟨_, hO_a0, hF_b⟩ ⟨_, hOfs50a1, hFv50_1⟩ ⟨_, hOfs50a1, hFv50_2⟩ ⟨_, hOfs50a1, hFv50_0⟩ ⟨_, hO_a0, hF_st⟩ ⟨_, hOfs50a1, hFfs50a1_1⟩ ⟨_, hOfs50a1, hFfs50a1_2⟩ ⟨_, hOfs50a1, hFfs50a1_3⟩ ⟨_, hOfs50a1, hFfs50a1_4⟩ hAF3n38 hS50 hXa50 hYa50 hZa50 (by omega) (by omega) (by omega) (by omega) (by rw [hzf50_0.eq, he60.eq]; omega) (by rw [he60.eq]; omega) (by omega) (by rw [he69.eq]; omega) (by omega) hp9 (by rw [hpn, he60.eq, show (x2.toInt + 1).toNat = x2.toInt.toNat + 1 by omega]; exact jpd_lt hp10 (by omega)) (fun i hi => by rw [he60.eq] at hi; rw [hpn, he60.eq, show (x2.toInt + 1).toNat = x2.toInt.toNat + 1 by omega]; by_cases c : i = x2.toInt.toNat; (rw [c, ← hN9, hSn50, hN9, jdg9_lo (by omega)]; exact e2.symm); (rw [hSo50 i (by omega), hS i (by omega), hp11 i (by omega)]; exact (jdg9_up (by omega) (by omega)).symm)) (by rw [hzf50_0.eq, show (g6n38.toInt + 1).toNat = g6n38.toInt.toNat + 1 by omega]; exact hlk.1) (by rw [hzf50_0.eq, show (g6n38.toInt + 1).toNat = x2.toInt.toNat + 1 by omega]; exact hjc.congr hsq) (by (try simp only [he60.eq, he69.eq, hzf50_0.eq, true_and, and_true]) <;> omega)) (by omega) (Nat.zero_le _) (Nat.zero_le _) (Nat.le_of_ble_eq_true rfl) (fun r70 V70 h70 => ?_)
            obtain ⟨h70, hX70_0, hX70_1, hX70_2, ⟨fv70_0, hfv70_0, hfp70_0⟩, ⟨fv70_1, hfv70_1, hfp70_1⟩, ⟨fv70_2, hfv70_2, hfp70_2⟩⟩ := h70
            obtain ⟨hW, hx70, hr70⟩ := h70
            have he := he.trans (hx70.sub (jsub_of rfl))
            have hfp := hfp.trans (hX70_2.sub (fun b hb => by simp only [List.mem_cons, List.not_mem_nil, or_false] at hb ⊢; first | (rcases hb with h9 | h9 | h9 | h9 | h9 | h9 <;> simp only [h9, true_or, or_true]) | omega))
            have ha0 := ha0.mono hx70.1
            have ha1 := ha1.mono hx70.1
            have hb_st := hb_st.mono hx70.1
            have hb_s := hb_s.mono hx70.1
            have hb_xx := hb_xx.mono hx70.1
            have hb_yy := hb_yy.mono hx70.1
            have hb_zz := hb_zz.mono hx70.1
            have hO_a0 := hx70.2 _ _ hO_a0 (jnot_of rfl)
            have hK_a0 := hK_a0.mono hx70.1
            obtain ⟨fs70a1, hOfs70a1, hRfs70a1⟩ := hx70.1.keep hOfs50a1
            have hKfs70a1 : jokO _ (jFs 1) fs70a1 := hW _ _ id hOfs70a1
            have hFfs70a1_1 := hRfs70a1 _ _ hFfs50a1_1
            have hFfs70a1_2 := hRfs70a1 _ _ hFfs50a1_2
            have hFfs70a1_3 := hRfs70a1 _ _ hFfs50a1_3
            have hFfs70a1_4 := hRfs70a1 _ _ hFfs50a1_4
            cases hr70
            have hFv70_0 := hfv70_0.get hOfs70a1
            try simp only [he60.eq, he69.eq, hzf50_0.eq] at hfp70_0
            have hzf70_0 : jEq fv70_0.toInt (((g6n38.toInt) + 1)) := hfp70_0
            clear hfp70_0
            have hFv70_1 := hfv70_1.get hOfs70a1
            try simp only [he60.eq, he69.eq, hzf50_0.eq] at hfp70_1
            have hsb70_1 : M = fv70_1 := (jI_inj.mp hfp70_1).symm
            subst hsb70_1
            have hFv70_2 := hfv70_2.get hOfs70a1
            try simp only [he60.eq, he69.eq, hzf50_0.eq] at hfp70_2
            have hsb70_2 : g = fv70_2 := (jI_inj.mp hfp70_2).symm
            subst hsb70_2
            obtain ⟨T70, S70, X70, Y70, Z70, hTa70, hSa70, hXa70, hYa70, hZa70, hSe70, hXe70, hmw70⟩ := hX70_0
            have hmwn : jmw g.toInt (jdir g.toInt).toNat sn.toInt.toNat (sn.toInt - x2.toInt - 1).toNat (x3.toInt.toNat * (jdir g.toInt).toNat) (x3.toInt.toNat * (jdir g.toInt).toNat + (i4n38.toInt.toNat + 1)) ST T70 := hmw.join (by
              have q := hmw70
              rw [hpn, he60.eq, show (sn.toInt - (x2.toInt + 1)).toNat = (sn.toInt - x2.toInt - 1).toNat by omega] at q
              exact q) (Nat.le_add_right _ _) (by omega)
            obtain ⟨hN_T70, hv_T70⟩ := WT_rngI (r := ((-128), 127)) hW id rfl hTa70
            clear hN_T70
            obtain ⟨hN_S70, hv_S70⟩ := WT_rngI (r := ((-2147483648), 2147483647)) hW id rfl hSa70
            clear hN_S70
            obtain ⟨hN_X70, hv_X70⟩ := WT_rngI (r := ((-2147483648), 2147483647)) hW id rfl hXa70
            clear hN_X70
            obtain ⟨hN_Y70, hv_Y70⟩ := WT_rngI (r := ((-2147483648), 2147483647)) hW id rfl hYa70
            clear hN_Y70
            obtain ⟨hN_Z70, hv_Z70⟩ := WT_rngI (r := ((-2147483648), 2147483647)) hW id rfl hZa70
            clear hN_Z70
            refine J_aload_n dX5_markWalks_73 rfl ?_
            refine Jz_iconst 1 dX5_markWalks_74 (by decide) (fun y74 he74 => ?_)
            refine Jw_callV1 (q9 := (RX3, TX3, 7)) moX3_drop jw_ml_X5_76 jw_im_X3_drop jw_se_X3_drop ha1 rfl rfl dX5_markWalks_75 (w_X3_drop_z (d - 1) _ a1 y74 M g fv70_0 (by omega) hW  ha1 ⟨_, hOfs70a1, hFv70_1⟩ ⟨_, hOfs70a1, hFv70_2⟩ ⟨_, hOfs70a1, hFv70_0⟩ (by (try simp only [he74.eq, true_and, and_true]) <;> omega) (by (try simp only [he74.eq, hzf70_0.eq, true_and, and_true]) <;> omega)) (by omega) (Nat.zero_le _) (Nat.zero_le _) (Nat.le_of_ble_eq_true rfl) (fun r75 V75 h75 => ?_)
            obtain ⟨h75, hX75_0, ⟨fv75_0, hfv75_0, hfp75_0⟩, ⟨fv75_1, hfv75_1, hfp75_1⟩, ⟨fv75_2, hfv75_2, hfp75_2⟩⟩ := h75
            obtain ⟨hW, hx75, hr75⟩ := h75
            have he := he.trans (hx75.sub (jsub_of rfl))
            have hfp := hfp.trans (hX75_0.sub (fun b hb => by simp only [List.mem_cons, List.not_mem_nil, or_false] at hb ⊢; first | (rcases hb with h9 <;> simp only [h9, true_or, or_true]) | omega))
            have ha0 := ha0.mono hx75.1
            have ha1 := ha1.mono hx75.1
            have hb_st := hb_st.mono hx75.1
            have hb_s := hb_s.mono hx75.1
            have hb_xx := hb_xx.mono hx75.1
            have hb_yy := hb_yy.mono hx75.1
            have hb_zz := hb_zz.mono hx75.1
            have hO_a0 := hx75.2 _ _ hO_a0 (jnot_of rfl)
            have hK_a0 := hK_a0.mono hx75.1
            obtain ⟨fs75a1, hOfs75a1, hRfs75a1⟩ := hx75.1.keep hOfs70a1
            have hKfs75a1 : jokO _ (jFs 1) fs75a1 := hW _ _ id hOfs75a1
            have hFfs75a1_1 := hRfs75a1 _ _ hFfs70a1_1
            have hFfs75a1_2 := hRfs75a1 _ _ hFfs70a1_2
            have hFfs75a1_3 := hRfs75a1 _ _ hFfs70a1_3
            have hFfs75a1_4 := hRfs75a1 _ _ hFfs70a1_4
            have hTa70 := hx75.2 _ _ hTa70 (jnot_of rfl)
            have hSa70 := hx75.2 _ _ hSa70 (jnot_of rfl)
            have hXa70 := hx75.2 _ _ hXa70 (jnot_of rfl)
            have hYa70 := hx75.2 _ _ hYa70 (jnot_of rfl)
            have hZa70 := hx75.2 _ _ hZa70 (jnot_of rfl)
            cases hr75
            have hFv75_0 := hfv75_0.get hOfs75a1
            try simp only [he74.eq, hzf70_0.eq] at hfp75_0
            have hsb75_0 : M = fv75_0 := (jI_inj.mp hfp75_0).symm
            subst hsb75_0
            have hFv75_1 := hfv75_1.get hOfs75a1
            try simp only [he74.eq, hzf70_0.eq] at hfp75_1
            have hsb75_1 : g = fv75_1 := (jI_inj.mp hfp75_1).symm
            subst hsb75_1
            have hFv75_2 := hfv75_2.get hOfs75a1
            try simp only [he74.eq, hzf70_0.eq] at hfp75_2
            have hzf75_2 : jEq fv75_2.toInt ((((g6n38.toInt) + 1)) - (1)) := hfp75_2
            clear hfp75_2
            refine Jz_iinc 1 dX5_markWalks_78 rfl rfl (by decide) jEq.rf (by decide) (by omega) (by omega) (fun y78 he78 => ?_)
            refine J_goto (tgt := 38) dX5_markWalks_81 (by decide) ?_
            refine J.mask [true, true, true, true, true] ?_
            exact ih38 _ y78 fs75a1 fv75_2 T70 S70 X70 Y70 Z70 hW he ha0 ha1 hb_st hb_s hb_xx hb_yy hb_zz hfp hO_a0 hK_a0 hOfs75a1 hFv75_0 hFv75_1 hFv75_2 hFfs75a1_1 hFfs75a1_2 hFfs75a1_3 hFfs75a1_4 hTa70 hSa70 hXa70 hYa70 hZa70 (by (try simp only [he78.eq, hzf75_2.eq, true_and, and_true]) <;> omega) (by (try simp only [he78.eq, hzf75_2.eq, true_and, and_true]) <;> omega) (fun j hj => by rw [hSe70 j (by rw [hzf50_0.eq]; omega), hSo50 j (by omega)]; exact hS j hj) (fun j hj => by obtain ⟨q1, q2, q3⟩ := hXe70 j (by rw [hzf50_0.eq]; omega); rw [q1, q2, q3, hXo50 j (by omega), hYo50 j (by omega), hZo50 j (by omega)]; exact hXYZ j hj) (by rw [he78.eq, show (i4n38.toInt + 1).toNat = i4n38.toInt.toNat + 1 by omega]; exact hmwn) (by (try simp only [he78.eq, hzf75_2.eq, true_and, and_true]) <;> omega)
          · refine Jw_callV1 (q9 := (RX3, TX3, 7)) moX3_lay jw_ml_X5_72 jw_im_X3_lay jw_se_X3_lay ha1 rfl rfl dX5_markWalks_50 (w_X3_lay_no (d - 1) _ a1 i4n38 M g g6n38 s xx yy zz F6n38 F34n38 F35n38 F36n38 (by omega) hW  ha1 ⟨_, hOgs38a1, hFgs38a1_0⟩ ⟨_, hOgs38a1, hFgs38a1_5⟩ ⟨_, hOgs38a1, hFgs38a1_6⟩ ⟨_, hOgs38a1, hFgs38a1_1⟩ ⟨_, hOgs38a1, hFgs38a1_2⟩ ⟨_, hOgs38a1, hFgs38a1_3⟩ ⟨_, hOgs38a1, hFgs38a1_4⟩ hAF6n38 hAF34n38 hAF35n38 hAF36n38 (by omega) (by omega) (by omega) (by omega) (by omega) (by omega) (by omega) (by omega) (by omega) (by omega) (by omega) (by omega) (by omega) (Or.inr (Classical.byContradiction (fun z => hcc ((jnx_iff hjv2 hja2).mp (fun j hj q => z ⟨j, by omega, q⟩)))))) (by omega) (Nat.zero_le _) (Nat.zero_le _) (Nat.le_of_ble_eq_true rfl) (fun r50 V50 h50 => ?_)
            obtain ⟨⟨y50, rfl, hl50, hh50, hP50_0⟩, hE50⟩ := h50
            have hE50 := hE50.symm
            subst hE50
            have hjn : ¬ jav g.toInt (jsat (fun q => (S q).toInt) x2.toInt.toNat i4n38.toInt) (x2.toInt.toNat + 1) := fun z => hcc (by
              rw [hN9]
              exact z.congr (jsat_congr (fun q hq => (congrArg Int32.toInt (hS q (by omega))).symm)))
            refine Jz_if_eq (tgt := 78) jEq.rf dX5_markWalks_53 (by decide) (fun c53 => ?_) (fun c53 => (show False by omega).elim)
            refine Jz_iinc 1 dX5_markWalks_78 rfl rfl (by decide) jEq.rf (by decide) (by omega) (by omega) (fun y78 he78 => ?_)
            refine J_goto (tgt := 38) dX5_markWalks_81 (by decide) ?_
            refine J.mask [true, true, true, true, true] ?_
            exact ih38 _ y78 gs38a1 g6n38 F3n38 F6n38 F34n38 F35n38 F36n38 hW he ha0 ha1 hb_st hb_s hb_xx hb_yy hb_zz hfp hO_a0 hK_a0 hOgs38a1 hFgs38a1_0 hFgs38a1_5 hFgs38a1_6 hFgs38a1_1 hFgs38a1_2 hFgs38a1_3 hFgs38a1_4 hAF3n38 hAF6n38 hAF34n38 hAF35n38 hAF36n38 (by (try simp only [he78.eq, true_and, and_true]) <;> omega) (by (try simp only [he78.eq, true_and, and_true]) <;> omega) hS hXYZ (by rw [he78.eq, show (i4n38.toInt + 1).toNat = i4n38.toInt.toNat + 1 by omega]; exact hmw.skip (fun v hv w => hjn (by have q := jwlk_pre (N := x2.toInt.toNat) (m := (sn.toInt - x2.toInt - 1).toNat) (p := x3.toInt.toNat) (d := i4n38.toInt.toNat) (T := (fun q => (S q).toInt)) hD0 (by omega) (by omega) w hv (fun i hi => hp11 i (by omega)); rw [e2] at q; exact q))) (by (try simp only [he78.eq, true_and, and_true]) <;> omega)
    refine J.mask [true, true, true, true, true] ?_
    exact L38 _ _ y35 fs_a1 n ST S X Y Z hW he ha0 ha1 hb_st hb_s hb_xx hb_yy hb_zz hfp hO_a0 hK_a0 hO_a1 hF_M hF_g hF_n hF_s hF_xx hF_yy hF_zz ha_ST ha_S ha_X ha_Y ha_Z (by (try simp only [he35.eq, true_and, and_true]) <;> omega) (by (try simp only [he35.eq, true_and, and_true]) <;> omega) (fun _ _ => rfl) (fun _ _ => ⟨rfl, rfl, rfl⟩) (by rw [he35.eq, show (0 : Int).toNat = 0 from rfl, Nat.add_zero]; exact jmw.rf) (Nat.lt_succ_self _)
