set_option maxRecDepth 100000 in
set_option maxHeartbeats 8000000 in
theorem w_X7_counts {tS : jTS} (d : Nat) (V0 : jH) (a0 : Nat) (x1 : Int32) (x2 : Int32) (hd : 2 ≤ d) (hW : WT V0) (ha0 : jis V0 (.inr 5) a0) (hp0 : 0 ≤ x1.toInt) (hp1 : x1.toInt ≤ 3) (hp2 : 0 ≤ x2.toInt) (hp3 : x2.toInt ≤ 20) : jTot tS mX7_counts d [.ref a0, .int x1, .int x2] V0 0 0 (fun r V => (jPost [.inr 5, .inl 40, .inl 23, .inl 17, .inl 18, .inl 19, .inl 20, .inl 41, .inl 26, .inl 46, .inl 24, .inl 25] V0 rV) r V ∧ jkc 5 [0, 23, 24, 26, 27, 28] V0 V) := by
  refine jTot.of_J [some (.ref a0), some (.int x1), some (.int x2), none, none, none, none, none, none, none] moX7_counts (Nat.le_of_ble_eq_true rfl) rfl ?_
  have hrx1 := j_rng x1
  have hrx2 := j_rng x2
  have he : jeff [.inr 5, .inl 40, .inl 23, .inl 17, .inl 18, .inl 19, .inl 20, .inl 41, .inl 26, .inl 46, .inl 24, .inl 25] V0 V0 := jeff.refl _ _
  have hkp : jkc 5 [0, 23, 24, 26, 27, 28] V0 V0 := jkc.rf
  refine Jz_bipush 21 dX7_counts_0 (by decide) (fun y0 he0 => ?_)
  refine J_iload_n dX7_counts_2 rfl ?_
  refine Jz_imul he0 jEq.rf dX7_counts_3 (by omega) (by omega) (fun y3 he3 => ?_)
  refine J_iload_n dX7_counts_4 rfl ?_
  refine Jz_iadd he3 jEq.rf dX7_counts_5 (by omega) (by omega) (fun y5 he5 => ?_)
  refine J_istore_n dX7_counts_6 rfl (by decide) ?_
  refine J_aload_n dX7_counts_7 rfl ?_
  obtain ⟨fs8, hO8, hK8⟩ := WT_obj hW id ha0
  obtain ⟨w8, hF8, b8, rfl, hb8⟩ := hK8.2 11 (.inr (some (.inl 40))) rfl
  refine J_get jf_X7_37 dX7_counts_8 hO8 hF8 ?_
  refine J_iload_n dX7_counts_11 rfl ?_
  obtain ⟨n12, f12, hA12, hN12, hM12, hv12⟩ := WT_arrI (r := (0, 1)) hW id rfl hb8
  obtain rfl := hM12 84 rfl
  clear hN12 hM12
  refine Jz_zaldr (r := (0, 1)) he5 dX7_counts_12 hA12 rfl hv12 (by omega) (by omega) (fun y12 hl12 hh12 => ?_)
  dsimp only at hl12 hh12
  refine Jz_if_eq (tgt := 17) jEq.rf dX7_counts_13 (by decide) (fun c13 => ?_) (fun c13 => ?_)
  · refine J_aload_n dX7_counts_17 rfl ?_
    refine J_get jf_X7_37 dX7_counts_18 hO8 hF8 ?_
    refine J_iload_n dX7_counts_21 rfl ?_
    refine Jz_iconst 1 dX7_counts_22 (by decide) (fun y22 he22 => ?_)
    refine Jz_zastw (r := (0, 1)) he5 he22 hW id dX7_counts_23 hA12 rfl rfl (by omega) (by omega) (by omega) (by omega) (fun _ h => vp_nar_b (by omega) (by omega)) (fun V23 hW hx23 => ?_)
    have he := he.trans (hx23.sub (jsub_of rfl))
    have hkp := hkp.trans (jkc.of hx23 (jnot_of rfl))
    have ha0 := ha0.mono hx23.1
    have hb8 := hb8.mono hx23.1
    have hO8 := hx23.2 _ _ hO8 (jnot_of rfl)
    have hK8 := hK8.mono hx23.1
    refine J_aload_n dX7_counts_24 rfl ?_
    obtain ⟨w25, hF25, b25, rfl, hb25⟩ := hK8.2 12 (.inr (some (.inl 23))) rfl
    refine J_get jf_X7_41 dX7_counts_25 hO8 hF25 ?_
    refine J_iload_n dX7_counts_28 rfl ?_
    refine J_iload_n dX7_counts_29 rfl ?_
    have K38 : ∀ (t0k38 : Int32), J tS mX7_counts d 38 [some (.ref a0), some (.int x1), some (.int x2), some (.int y5), none, none, none, none, none, none] [.int t0k38, .int y5, .ref b25] V23 0 0 (fun r V => (jPost [.inr 5, .inl 40, .inl 23, .inl 17, .inl 18, .inl 19, .inl 20, .inl 41, .inl 26, .inl 46, .inl 24, .inl 25] V0 rV) r V ∧ jkc 5 [0, 23, 24, 26, 27, 28] V0 V) := by
      intro  t0k38     
      obtain ⟨n38, f38, hA38, hN38, hM38, hv38⟩ := WT_arrI (r := (-2147483648, 2147483647)) hW id rfl hb25
      obtain rfl := hM38 84 rfl
      clear hN38 hM38
      refine Jz_iastw (r := ((-2147483648), 2147483647)) he5 jEq.rf hW id dX7_counts_38 hA38 rfl rfl (by omega) (by omega) (j_rng _).1 (j_rng _).2 (fun V38 hW hx38 => ?_)
      have he := he.trans (hx38.sub (jsub_of rfl))
      have hkp := hkp.trans (jkc.of hx38 (jnot_of rfl))
      have ha0 := ha0.mono hx38.1
      have hb8 := hb8.mono hx38.1
      have hb25 := hb25.mono hx38.1
      have hO8 := hx38.2 _ _ hO8 (jnot_of rfl)
      have hK8 := hK8.mono hx38.1
      refine Jz_iconst 0 dX7_counts_39 (by decide) (fun y39 he39 => ?_)
      refine J_istore dX7_counts_40 rfl (by decide) ?_
      refine Jz_iconst 0 dX7_counts_42 (by decide) (fun y42 he42 => ?_)
      refine J_istore dX7_counts_43 rfl (by decide) ?_
      refine J_aload_n dX7_counts_45 rfl ?_
      obtain ⟨w46, hF46, b46, rfl, hb46⟩ := hK8.2 4 (.inr (some (.inl 17))) rfl
      refine J_get jf_X7_19 dX7_counts_46 hO8 hF46 ?_
      refine Jz_iconst 0 dX7_counts_49 (by decide) (fun y49 he49 => ?_)
      refine Jz_iconst (-1) dX7_counts_50 (by decide) (fun y50 he50 => ?_)
      obtain ⟨n51, f51, hA51, hN51, hM51, hv51⟩ := WT_arrI (r := (-2147483648, 2147483647)) hW id rfl hb46
      obtain rfl := hM51 120 rfl
      clear hN51 hM51
      refine Jz_iast (r := ((-2147483648), 2147483647)) he49 he50 hW id dX7_counts_51 hA51 rfl rfl (by omega) (by omega) (by omega) (by omega) (fun V51 G51 hW hx51 hA51 hp51 ho51 => ?_)
      obtain ⟨hN51, hv51⟩ := WT_rngI (r := ((-2147483648), 2147483647)) hW id rfl hA51
      clear hN51
      have he := he.trans (hx51.sub (jsub_of rfl))
      have hkp := hkp.trans (jkc.of hx51 (jnot_of rfl))
      have ha0 := ha0.mono hx51.1
      have hb8 := hb8.mono hx51.1
      have hb25 := hb25.mono hx51.1
      have hb46 := hb46.mono hx51.1
      have hO8 := hx51.2 _ _ hO8 (jnot_of rfl)
      have hK8 := hK8.mono hx51.1
      refine J_aload_n dX7_counts_52 rfl ?_
      obtain ⟨w53, hF53, b53, rfl, hb53⟩ := hK8.2 6 (.inr (some (.inl 18))) rfl
      refine J_get jf_X7_22 dX7_counts_53 hO8 hF53 ?_
      refine Jz_iconst 0 dX7_counts_56 (by decide) (fun y56 he56 => ?_)
      refine Jz_iconst 0 dX7_counts_57 (by decide) (fun y57 he57 => ?_)
      obtain ⟨n58, f58, hA58, hN58, hM58, hv58⟩ := WT_arrI (r := (-2147483648, 2147483647)) hW id rfl hb53
      obtain rfl := hM58 121 rfl
      clear hN58 hM58
      refine Jz_iast (r := ((-2147483648), 2147483647)) he56 he57 hW id dX7_counts_58 hA58 rfl rfl (by omega) (by omega) (by omega) (by omega) (fun V58 G58 hW hx58 hA58 hp58 ho58 => ?_)
      obtain ⟨hN58, hv58⟩ := WT_rngI (r := ((-2147483648), 2147483647)) hW id rfl hA58
      clear hN58
      have he := he.trans (hx58.sub (jsub_of rfl))
      have hkp := hkp.trans (jkc.of hx58 (jnot_of rfl))
      have ha0 := ha0.mono hx58.1
      have hb8 := hb8.mono hx58.1
      have hb25 := hb25.mono hx58.1
      have hb46 := hb46.mono hx58.1
      have hb53 := hb53.mono hx58.1
      have hO8 := hx58.2 _ _ hO8 (jnot_of rfl)
      have hK8 := hK8.mono hx58.1
      have hA51 := hx58.2 _ _ hA51 (jnot_of rfl)
      refine J_aload_n dX7_counts_59 rfl ?_
      obtain ⟨w60, hF60, b60, rfl, hb60⟩ := hK8.2 7 (.inr (some (.inl 19))) rfl
      refine J_get jf_X7_25 dX7_counts_60 hO8 hF60 ?_
      refine Jz_iconst 0 dX7_counts_63 (by decide) (fun y63 he63 => ?_)
      refine Jz_iconst 0 dX7_counts_64 (by decide) (fun y64 he64 => ?_)
      obtain ⟨n65, f65, hA65, hN65, hM65, hv65⟩ := WT_arrI (r := (-2147483648, 2147483647)) hW id rfl hb60
      obtain rfl := hM65 121 rfl
      clear hN65 hM65
      refine Jz_iast (r := ((-2147483648), 2147483647)) he63 he64 hW id dX7_counts_65 hA65 rfl rfl (by omega) (by omega) (by omega) (by omega) (fun V65 G65 hW hx65 hA65 hp65 ho65 => ?_)
      obtain ⟨hN65, hv65⟩ := WT_rngI (r := ((-2147483648), 2147483647)) hW id rfl hA65
      clear hN65
      have he := he.trans (hx65.sub (jsub_of rfl))
      have hkp := hkp.trans (jkc.of hx65 (jnot_of rfl))
      have ha0 := ha0.mono hx65.1
      have hb8 := hb8.mono hx65.1
      have hb25 := hb25.mono hx65.1
      have hb46 := hb46.mono hx65.1
      have hb53 := hb53.mono hx65.1
      have hb60 := hb60.mono hx65.1
      have hO8 := hx65.2 _ _ hO8 (jnot_of rfl)
      have hK8 := hK8.mono hx65.1
      have hA51 := hx65.2 _ _ hA51 (jnot_of rfl)
      have hA58 := hx65.2 _ _ hA58 (jnot_of rfl)
      refine J_aload_n dX7_counts_66 rfl ?_
      obtain ⟨w67, hF67, b67, rfl, hb67⟩ := hK8.2 8 (.inr (some (.inl 20))) rfl
      refine J_get jf_X7_28 dX7_counts_67 hO8 hF67 ?_
      refine Jz_iconst 0 dX7_counts_70 (by decide) (fun y70 he70 => ?_)
      refine Jz_iconst 0 dX7_counts_71 (by decide) (fun y71 he71 => ?_)
      obtain ⟨n72, f72, hA72, hN72, hM72, hv72⟩ := WT_arrI (r := (-2147483648, 2147483647)) hW id rfl hb67
      obtain rfl := hM72 121 rfl
      clear hN72 hM72
      refine Jz_iast (r := ((-2147483648), 2147483647)) he70 he71 hW id dX7_counts_72 hA72 rfl rfl (by omega) (by omega) (by omega) (by omega) (fun V72 G72 hW hx72 hA72 hp72 ho72 => ?_)
      obtain ⟨hN72, hv72⟩ := WT_rngI (r := ((-2147483648), 2147483647)) hW id rfl hA72
      clear hN72
      have he := he.trans (hx72.sub (jsub_of rfl))
      have hkp := hkp.trans (jkc.of hx72 (jnot_of rfl))
      have ha0 := ha0.mono hx72.1
      have hb8 := hb8.mono hx72.1
      have hb25 := hb25.mono hx72.1
      have hb46 := hb46.mono hx72.1
      have hb53 := hb53.mono hx72.1
      have hb60 := hb60.mono hx72.1
      have hb67 := hb67.mono hx72.1
      have hO8 := hx72.2 _ _ hO8 (jnot_of rfl)
      have hK8 := hK8.mono hx72.1
      have hA51 := hx72.2 _ _ hA51 (jnot_of rfl)
      have hA58 := hx72.2 _ _ hA58 (jnot_of rfl)
      have hA65 := hx72.2 _ _ hA65 (jnot_of rfl)
      refine J_aload_n dX7_counts_73 rfl ?_
      obtain ⟨w74, hF74, b74, rfl, hb74⟩ := hK8.2 16 (.inr (some (.inl 41))) rfl
      refine J_get jf_X7_55 dX7_counts_74 hO8 hF74 ?_
      refine Jz_iconst 0 dX7_counts_77 (by decide) (fun y77 he77 => ?_)
      refine Jz_iconst 0 dX7_counts_78 (by decide) (fun y78 he78 => ?_)
      refine Jz_iconst 0 dX7_counts_79 (by decide) (fun y79 he79 => ?_)
      refine J_callS3 moX7_spot jw_ml_X7_177 jw_st_X7_spot dX7_counts_80 (w_X7_spot (d - 1) _ y77 y78 y79 (by omega)   (by (try simp only [he77.eq, true_and, and_true]) <;> omega) (by (try simp only [he77.eq, true_and, and_true]) <;> omega) (by (try simp only [he78.eq, true_and, and_true]) <;> omega) (by (try simp only [he78.eq, true_and, and_true]) <;> omega) (by (try simp only [he79.eq, true_and, and_true]) <;> omega) (by (try simp only [he79.eq, true_and, and_true]) <;> omega)) (by omega) (Nat.zero_le _) (Nat.zero_le _) (Nat.le_of_ble_eq_true rfl) (fun r80 V80 h80 => ?_)
      obtain ⟨⟨y80, rfl, hl80, hh80⟩, hE80⟩ := h80
      have hE80 := hE80.symm
      subst hE80
      refine Jz_iconst 1 dX7_counts_83 (by decide) (fun y83 he83 => ?_)
      obtain ⟨n84, f84, hA84, hN84, hM84, hv84⟩ := WT_arrI (r := (0, 1)) hW id rfl hb74
      obtain rfl := hM84 79507 rfl
      clear hN84 hM84
      refine Jz_zastw (r := (0, 1)) jEq.rf he83 hW id dX7_counts_84 hA84 rfl rfl (by omega) (by omega) (by omega) (by omega) (fun _ h => vp_nar_b (by omega) (by omega)) (fun V84 hW hx84 => ?_)
      have he := he.trans (hx84.sub (jsub_of rfl))
      have hkp := hkp.trans (jkc.of hx84 (jnot_of rfl))
      have ha0 := ha0.mono hx84.1
      have hb8 := hb8.mono hx84.1
      have hb25 := hb25.mono hx84.1
      have hb46 := hb46.mono hx84.1
      have hb53 := hb53.mono hx84.1
      have hb60 := hb60.mono hx84.1
      have hb67 := hb67.mono hx84.1
      have hb74 := hb74.mono hx84.1
      have hO8 := hx84.2 _ _ hO8 (jnot_of rfl)
      have hK8 := hK8.mono hx84.1
      have hA51 := hx84.2 _ _ hA51 (jnot_of rfl)
      have hA58 := hx84.2 _ _ hA58 (jnot_of rfl)
      have hA65 := hx84.2 _ _ hA65 (jnot_of rfl)
      have hA72 := hx84.2 _ _ hA72 (jnot_of rfl)
      refine J_aload_n dX7_counts_85 rfl ?_
      obtain ⟨w86, hF86, b86, rfl, hb86⟩ := hK8.2 17 (.inr (some (.inl 26))) rfl
      refine J_get jf_X7_58 dX7_counts_86 hO8 hF86 ?_
      refine Jz_iconst 0 dX7_counts_89 (by decide) (fun y89 he89 => ?_)
      refine Jz_iconst 0 dX7_counts_90 (by decide) (fun y90 he90 => ?_)
      obtain ⟨n91, f91, hA91, hN91, hM91, hv91⟩ := WT_arrI (r := (-2147483648, 2147483647)) hW id rfl hb86
      obtain rfl := hM91 22 rfl
      clear hN91 hM91
      refine Jz_iastw (r := ((-2147483648), 2147483647)) he89 he90 hW id dX7_counts_91 hA91 rfl rfl (by omega) (by omega) (by omega) (by omega) (fun V91 hW hx91 => ?_)
      have he := he.trans (hx91.sub (jsub_of rfl))
      have hkp := hkp.trans (jkc.of hx91 (jnot_of rfl))
      have ha0 := ha0.mono hx91.1
      have hb8 := hb8.mono hx91.1
      have hb25 := hb25.mono hx91.1
      have hb46 := hb46.mono hx91.1
      have hb53 := hb53.mono hx91.1
      have hb60 := hb60.mono hx91.1
      have hb67 := hb67.mono hx91.1
      have hb74 := hb74.mono hx91.1
      have hb86 := hb86.mono hx91.1
      have hO8 := hx91.2 _ _ hO8 (jnot_of rfl)
      have hK8 := hK8.mono hx91.1
      have hA51 := hx91.2 _ _ hA51 (jnot_of rfl)
      have hA58 := hx91.2 _ _ hA58 (jnot_of rfl)
      have hA65 := hx91.2 _ _ hA65 (jnot_of rfl)
      have hA72 := hx91.2 _ _ hA72 (jnot_of rfl)
      have L92 : ∀ (N : Nat) (V : jH) (i4n92 : Int32) (i5n92 : Int32) (gs92a0 : List Value) (F17n92 : Nat → Int32) (F18n92 : Nat → Int32) (F19n92 : Nat → Int32) (F20n92 : Nat → Int32), WT V → jeff [.inr 5, .inl 40, .inl 23, .inl 17, .inl 18, .inl 19, .inl 20, .inl 41, .inl 26, .inl 46, .inl 24, .inl 25] V0 V → (jis V (.inr 5) a0) → (jis V (.inl 40) b8) → (jis V (.inl 23) b25) → (jis V (.inl 17) b46) → (jis V (.inl 18) b53) → (jis V (.inl 19) b60) → (jis V (.inl 20) b67) → (jis V (.inl 41) b74) → (jis V (.inl 26) b86) → (jkc 5 [0, 23, 24, 26, 27, 28] V0 V) → (V a0 = some (.inr (5, gs92a0))) → (gs92a0[11]? = some (.ref b8)) → (gs92a0[12]? = some (.ref b25)) → (gs92a0[4]? = some (.ref b46)) → (gs92a0[6]? = some (.ref b53)) → (gs92a0[7]? = some (.ref b60)) → (gs92a0[8]? = some (.ref b67)) → (gs92a0[16]? = some (.ref b74)) → (gs92a0[17]? = some (.ref b86)) → (V b46 = some (.inl (17, 120, .inl F17n92))) → (V b53 = some (.inl (18, 121, .inl F18n92))) → (V b60 = some (.inl (19, 121, .inl F19n92))) → (V b67 = some (.inl (20, 121, .inl F20n92))) → (-1 ≤ i5n92.toInt ∧ i5n92.toInt ≤ 19 ∧ (i5n92.toInt < x2.toInt ∨ x2.toInt = 0)) → (0 ≤ i4n92.toInt ∧ i4n92.toInt ≤ 600000) → (∀ k : Nat, (k : Int) ≤ i5n92.toInt → -1 ≤ (F17n92 k).toInt ∧ (F17n92 k).toInt < jdir x1.toInt) → (∀ k : Nat, (k : Int) ≤ i5n92.toInt → -(k : Int) ≤ (F18n92 k).toInt ∧ (F18n92 k).toInt ≤ (k : Int)) → (∀ k : Nat, (k : Int) ≤ i5n92.toInt → -(k : Int) ≤ (F19n92 k).toInt ∧ (F19n92 k).toInt ≤ (k : Int)) → (∀ k : Nat, (k : Int) ≤ i5n92.toInt → -(k : Int) ≤ (F20n92 k).toInt ∧ (F20n92 k).toInt ≤ (k : Int)) → ((600001 - i4n92.toInt) * 1000 + (i5n92.toInt + 1) * 10 + (7 - (F17n92 i5n92.toInt.toNat).toInt)).toNat < N → J tS mX7_counts d 92 [some (.ref a0), some (.int x1), some (.int x2), some (.int y5), some (.int i4n92), some (.int i5n92), none, none, none, none] [] V 0 0 (fun r V => (jPost [.inr 5, .inl 40, .inl 23, .inl 17, .inl 18, .inl 19, .inl 20, .inl 41, .inl 26, .inl 46, .inl 24, .inl 25] V0 rV) r V ∧ jkc 5 [0, 23, 24, 26, 27, 28] V0 V) := by
        intro N
        induction N with
        | zero => intro V i4n92 i5n92 gs92a0 F17n92 F18n92 F19n92 F20n92 hW he ha0 hb8 hb25 hb46 hb53 hb60 hb67 hb74 hb86 hkp hOgs92a0 hFgs92a0_11 hFgs92a0_12 hFgs92a0_4 hFgs92a0_6 hFgs92a0_7 hFgs92a0_8 hFgs92a0_16 hFgs92a0_17 hAF17n92 hAF18n92 hAF19n92 hAF20n92 hd hall hrow hx18 hx19 hx20 hm; exact absurd hm (Nat.not_lt_zero _)
        | succ N ih =>
          intro V i4n92 i5n92 gs92a0 F17n92 F18n92 F19n92 F20n92 hW he ha0 hb8 hb25 hb46 hb53 hb60 hb67 hb74 hb86 hkp hOgs92a0 hFgs92a0_11 hFgs92a0_12 hFgs92a0_4 hFgs92a0_6 hFgs92a0_7 hFgs92a0_8 hFgs92a0_16 hFgs92a0_17 hAF17n92 hAF18n92 hAF19n92 hAF20n92 hd hall hrow hx18 hx19 hx20 hm
          have ih92 := ih
          have hri4 := j_rng i4n92
          have hri5 := j_rng i5n92
          have hKgs92a0 : jokO V (jFs 5) gs92a0 := hW _ _ id hOgs92a0
          obtain ⟨hNF17n92, hvF17n92⟩ := WT_rngI (r := ((-2147483648), 2147483647)) hW id rfl hAF17n92
          clear hNF17n92
          obtain ⟨hNF18n92, hvF18n92⟩ := WT_rngI (r := ((-2147483648), 2147483647)) hW id rfl hAF18n92
          clear hNF18n92
          obtain ⟨hNF19n92, hvF19n92⟩ := WT_rngI (r := ((-2147483648), 2147483647)) hW id rfl hAF19n92
          clear hNF19n92
          obtain ⟨hNF20n92, hvF20n92⟩ := WT_rngI (r := ((-2147483648), 2147483647)) hW id rfl hAF20n92
          clear hNF20n92
          have hjd := jdir_cases x1.toInt
          refine J_iload dX7_counts_92 rfl ?_
          refine Jz_if_lt (tgt := 488) jEq.rf dX7_counts_94 (by decide) (fun c94 => ?_) (fun c94 => ?_)
          · refine J_aload_n dX7_counts_488 rfl ?_
            refine J_get jf_X7_55 dX7_counts_489 hOgs92a0 hFgs92a0_16 ?_
            refine Jz_iconst 0 dX7_counts_492 (by decide) (fun y492 he492 => ?_)
            refine Jz_iconst 0 dX7_counts_493 (by decide) (fun y493 he493 => ?_)
            refine Jz_iconst 0 dX7_counts_494 (by decide) (fun y494 he494 => ?_)
            refine J_callS3 moX7_spot jw_ml_X7_177 jw_st_X7_spot dX7_counts_495 (w_X7_spot (d - 1) _ y492 y493 y494 (by omega)   (by (try simp only [he492.eq, true_and, and_true]) <;> omega) (by (try simp only [he492.eq, true_and, and_true]) <;> omega) (by (try simp only [he493.eq, true_and, and_true]) <;> omega) (by (try simp only [he493.eq, true_and, and_true]) <;> omega) (by (try simp only [he494.eq, true_and, and_true]) <;> omega) (by (try simp only [he494.eq, true_and, and_true]) <;> omega)) (by omega) (Nat.zero_le _) (Nat.zero_le _) (Nat.le_of_ble_eq_true rfl) (fun r495 V495 h495 => ?_)
            obtain ⟨⟨y495, rfl, hl495, hh495⟩, hE495⟩ := h495
            have hE495 := hE495.symm
            subst hE495
            refine Jz_iconst 0 dX7_counts_498 (by decide) (fun y498 he498 => ?_)
            obtain ⟨n499, f499, hA499, hN499, hM499, hv499⟩ := WT_arrI (r := (0, 1)) hW id rfl hb74
            obtain rfl := hM499 79507 rfl
            clear hN499 hM499
            refine Jz_zastw (r := (0, 1)) jEq.rf he498 hW id dX7_counts_499 hA499 rfl rfl (by omega) (by omega) (by omega) (by omega) (fun _ h => vp_nar_b (by omega) (by omega)) (fun V499 hW hx499 => ?_)
            have he := he.trans (hx499.sub (jsub_of rfl))
            have hkp := hkp.trans (jkc.of hx499 (jnot_of rfl))
            have ha0 := ha0.mono hx499.1
            have hb8 := hb8.mono hx499.1
            have hb25 := hb25.mono hx499.1
            have hb46 := hb46.mono hx499.1
            have hb53 := hb53.mono hx499.1
            have hb60 := hb60.mono hx499.1
            have hb67 := hb67.mono hx499.1
            have hb74 := hb74.mono hx499.1
            have hb86 := hb86.mono hx499.1
            have hOgs92a0 := hx499.2 _ _ hOgs92a0 (jnot_of rfl)
            have hKgs92a0 := hKgs92a0.mono hx499.1
            have hAF17n92 := hx499.2 _ _ hAF17n92 (jnot_of rfl)
            have hAF18n92 := hx499.2 _ _ hAF18n92 (jnot_of rfl)
            have hAF19n92 := hx499.2 _ _ hAF19n92 (jnot_of rfl)
            have hAF20n92 := hx499.2 _ _ hAF20n92 (jnot_of rfl)
            exact J_ret (r := none) dX7_counts_500 ⟨rfl, rfl⟩ (⟨⟨hW, he, rfl⟩, hkp⟩)
          · refine J_iload_n dX7_counts_97 rfl ?_
            refine Jz_if_le (tgt := 488) jEq.rf dX7_counts_98 (by decide) (fun c98 => ?_) (fun c98 => ?_)
            · refine J_aload_n dX7_counts_488 rfl ?_
              refine J_get jf_X7_55 dX7_counts_489 hOgs92a0 hFgs92a0_16 ?_
              refine Jz_iconst 0 dX7_counts_492 (by decide) (fun y492 he492 => ?_)
              refine Jz_iconst 0 dX7_counts_493 (by decide) (fun y493 he493 => ?_)
              refine Jz_iconst 0 dX7_counts_494 (by decide) (fun y494 he494 => ?_)
              refine J_callS3 moX7_spot jw_ml_X7_177 jw_st_X7_spot dX7_counts_495 (w_X7_spot (d - 1) _ y492 y493 y494 (by omega)   (by (try simp only [he492.eq, true_and, and_true]) <;> omega) (by (try simp only [he492.eq, true_and, and_true]) <;> omega) (by (try simp only [he493.eq, true_and, and_true]) <;> omega) (by (try simp only [he493.eq, true_and, and_true]) <;> omega) (by (try simp only [he494.eq, true_and, and_true]) <;> omega) (by (try simp only [he494.eq, true_and, and_true]) <;> omega)) (by omega) (Nat.zero_le _) (Nat.zero_le _) (Nat.le_of_ble_eq_true rfl) (fun r495 V495 h495 => ?_)
              obtain ⟨⟨y495, rfl, hl495, hh495⟩, hE495⟩ := h495
              have hE495 := hE495.symm
              subst hE495
              refine Jz_iconst 0 dX7_counts_498 (by decide) (fun y498 he498 => ?_)
              obtain ⟨n499, f499, hA499, hN499, hM499, hv499⟩ := WT_arrI (r := (0, 1)) hW id rfl hb74
              obtain rfl := hM499 79507 rfl
              clear hN499 hM499
              refine Jz_zastw (r := (0, 1)) jEq.rf he498 hW id dX7_counts_499 hA499 rfl rfl (by omega) (by omega) (by omega) (by omega) (fun _ h => vp_nar_b (by omega) (by omega)) (fun V499 hW hx499 => ?_)
              have he := he.trans (hx499.sub (jsub_of rfl))
              have hkp := hkp.trans (jkc.of hx499 (jnot_of rfl))
              have ha0 := ha0.mono hx499.1
              have hb8 := hb8.mono hx499.1
              have hb25 := hb25.mono hx499.1
              have hb46 := hb46.mono hx499.1
              have hb53 := hb53.mono hx499.1
              have hb60 := hb60.mono hx499.1
              have hb67 := hb67.mono hx499.1
              have hb74 := hb74.mono hx499.1
              have hb86 := hb86.mono hx499.1
              have hOgs92a0 := hx499.2 _ _ hOgs92a0 (jnot_of rfl)
              have hKgs92a0 := hKgs92a0.mono hx499.1
              have hAF17n92 := hx499.2 _ _ hAF17n92 (jnot_of rfl)
              have hAF18n92 := hx499.2 _ _ hAF18n92 (jnot_of rfl)
              have hAF19n92 := hx499.2 _ _ hAF19n92 (jnot_of rfl)
              have hAF20n92 := hx499.2 _ _ hAF20n92 (jnot_of rfl)
              exact J_ret (r := none) dX7_counts_500 ⟨rfl, rfl⟩ (⟨⟨hW, he, rfl⟩, hkp⟩)
            · refine J_aload_n dX7_counts_101 rfl ?_
              refine J_get jf_X7_19 dX7_counts_102 hOgs92a0 hFgs92a0_4 ?_
              refine J_iload dX7_counts_105 rfl ?_
              refine J_dup2 dX7_counts_107 rfl rfl ?_
              refine Jz_iald (r := ((-2147483648), 2147483647)) jEq.rf dX7_counts_108 hAF17n92 rfl hvF17n92 (by omega) (by omega) (fun y108 hf108 hl108 hh108 => ?_)
              dsimp only at hl108 hh108
              clear hl108 hh108
              have hb108 := hrow i5n92.toInt.toNat (by omega)
              rw [hf108] at hb108
              refine Jz_iconst 1 dX7_counts_109 (by decide) (fun y109 he109 => ?_)
              refine Jz_iadd jEq.rf he109 dX7_counts_110 (by omega) (by omega) (fun y110 he110 => ?_)
              refine Jz_iast (r := ((-2147483648), 2147483647)) jEq.rf he110 hW id dX7_counts_111 hAF17n92 rfl rfl (by omega) (by omega) (by omega) (by omega) (fun V111 G111 hW hx111 hA111 hp111 ho111 => ?_)
              obtain ⟨hN111, hv111⟩ := WT_rngI (r := ((-2147483648), 2147483647)) hW id rfl hA111
              clear hN111
              have he := he.trans (hx111.sub (jsub_of rfl))
              have hkp := hkp.trans (jkc.of hx111 (jnot_of rfl))
              have ha0 := ha0.mono hx111.1
              have hb8 := hb8.mono hx111.1
              have hb25 := hb25.mono hx111.1
              have hb46 := hb46.mono hx111.1
              have hb53 := hb53.mono hx111.1
              have hb60 := hb60.mono hx111.1
              have hb67 := hb67.mono hx111.1
              have hb74 := hb74.mono hx111.1
              have hb86 := hb86.mono hx111.1
              have hOgs92a0 := hx111.2 _ _ hOgs92a0 (jnot_of rfl)
              have hKgs92a0 := hKgs92a0.mono hx111.1
              have hAF18n92 := hx111.2 _ _ hAF18n92 (jnot_of rfl)
              have hAF19n92 := hx111.2 _ _ hAF19n92 (jnot_of rfl)
              have hAF20n92 := hx111.2 _ _ hAF20n92 (jnot_of rfl)
              refine J_aload_n dX7_counts_112 rfl ?_
              refine J_get jf_X7_19 dX7_counts_113 hOgs92a0 hFgs92a0_4 ?_
              refine J_iload dX7_counts_116 rfl ?_
              refine Jz_iald (r := ((-2147483648), 2147483647)) jEq.rf dX7_counts_118 hA111 rfl hv111 (by omega) (by omega) (fun y118 hf118 hl118 hh118 => ?_)
              dsimp only at hl118 hh118
              clear hl118 hh118
              have he118 : jEq y118.toInt (y108.toInt + 1) := by rw [← hf118, hp111]; exact he110
              refine J_iload_n dX7_counts_119 rfl ?_
              refine J_callS1 moX7_directions jw_ml_X7_133 jw_st_X7_directions dX7_counts_120 (w_X7_directions (d - 1) _ x1 (by omega)   ) (by omega) (Nat.zero_le _) (Nat.zero_le _) (Nat.le_of_ble_eq_true rfl) (fun r120 V120 h120 => ?_)
              obtain ⟨⟨y120, rfl, hl120, hh120, hP120_0⟩, hE120⟩ := h120
              have hE120 := hE120.symm
              subst hE120
              have hz120 : jEq y120.toInt (jdir (x1.toInt)) := hP120_0
              simp only [hP120_0] at hl120 hh120
              clear hP120_0
              refine Jz_icmp_ne (tgt := 162) he118 hz120 dX7_counts_123 (by decide) (fun c123 => ?_) (fun c123 => ?_)
              · refine J_aload_n dX7_counts_162 rfl ?_
                refine J_get jf_X7_19 dX7_counts_163 hOgs92a0 hFgs92a0_4 ?_
                refine J_iload dX7_counts_166 rfl ?_
                refine Jz_iald (r := ((-2147483648), 2147483647)) jEq.rf dX7_counts_168 hA111 rfl hv111 (by omega) (by omega) (fun y168 hf168 hl168 hh168 => ?_)
                dsimp only at hl168 hh168
                clear hl168 hh168
                have he168 : jEq y168.toInt (y108.toInt + 1) := by rw [← hf168, hp111]; exact he110
                refine J_istore dX7_counts_169 rfl (by decide) ?_
                refine J_aload_n dX7_counts_171 rfl ?_
                refine J_get jf_X7_22 dX7_counts_172 hOgs92a0 hFgs92a0_6 ?_
                refine J_iload dX7_counts_175 rfl ?_
                refine Jz_iald (r := ((-2147483648), 2147483647)) jEq.rf dX7_counts_177 hAF18n92 rfl hvF18n92 (by omega) (by omega) (fun y177 hf177 hl177 hh177 => ?_)
                dsimp only at hl177 hh177
                clear hl177 hh177
                have hb177 := hx18 i5n92.toInt.toNat (by omega)
                rw [hf177] at hb177
                refine J_iload_n dX7_counts_178 rfl ?_
                refine J_iload dX7_counts_179 rfl ?_
                refine J_callS2 moX7_stepX jw_ml_X7_112 jw_st_X7_stepX dX7_counts_181 (w_X7_stepX (d - 1) _ x1 y168 (by omega)   ) (by omega) (Nat.zero_le _) (Nat.zero_le _) (Nat.le_of_ble_eq_true rfl) (fun r181 V181 h181 => ?_)
                obtain ⟨⟨y181, rfl, hl181, hh181⟩, hE181⟩ := h181
                have hE181 := hE181.symm
                subst hE181
                refine Jz_iadd jEq.rf jEq.rf dX7_counts_184 (by omega) (by omega) (fun y184 he184 => ?_)
                refine J_istore dX7_counts_185 rfl (by decide) ?_
                refine J_aload_n dX7_counts_187 rfl ?_
                refine J_get jf_X7_25 dX7_counts_188 hOgs92a0 hFgs92a0_7 ?_
                refine J_iload dX7_counts_191 rfl ?_
                refine Jz_iald (r := ((-2147483648), 2147483647)) jEq.rf dX7_counts_193 hAF19n92 rfl hvF19n92 (by omega) (by omega) (fun y193 hf193 hl193 hh193 => ?_)
                dsimp only at hl193 hh193
                clear hl193 hh193
                have hb193 := hx19 i5n92.toInt.toNat (by omega)
                rw [hf193] at hb193
                refine J_iload_n dX7_counts_194 rfl ?_
                refine J_iload dX7_counts_195 rfl ?_
                refine J_aload_n dX7_counts_197 rfl ?_
                refine J_get jf_X7_22 dX7_counts_198 hOgs92a0 hFgs92a0_6 ?_
                refine J_iload dX7_counts_201 rfl ?_
                refine Jz_iald (r := ((-2147483648), 2147483647)) jEq.rf dX7_counts_203 hAF18n92 rfl hvF18n92 (by omega) (by omega) (fun y203 hf203 hl203 hh203 => ?_)
                dsimp only at hl203 hh203
                clear hl203 hh203
                have he203 : jEq y203.toInt (y177.toInt) := by rw [← hf203, hf177]; exact jEq.rf
                refine J_aload_n dX7_counts_204 rfl ?_
                refine J_get jf_X7_25 dX7_counts_205 hOgs92a0 hFgs92a0_7 ?_
                refine J_iload dX7_counts_208 rfl ?_
                refine Jz_iald (r := ((-2147483648), 2147483647)) jEq.rf dX7_counts_210 hAF19n92 rfl hvF19n92 (by omega) (by omega) (fun y210 hf210 hl210 hh210 => ?_)
                dsimp only at hl210 hh210
                clear hl210 hh210
                have he210 : jEq y210.toInt (y193.toInt) := by rw [← hf210, hf193]; exact jEq.rf
                refine Jz_iaddw dX7_counts_211 (fun y211  => ?_)
                refine J_callS3 moX7_stepY jw_ml_X7_115 jw_st_X7_stepY dX7_counts_212 (w_X7_stepY (d - 1) _ x1 y168 y211 (by omega)   ) (by omega) (Nat.zero_le _) (Nat.zero_le _) (Nat.le_of_ble_eq_true rfl) (fun r212 V212 h212 => ?_)
                obtain ⟨⟨y212, rfl, hl212, hh212⟩, hE212⟩ := h212
                have hE212 := hE212.symm
                subst hE212
                refine Jz_iadd jEq.rf jEq.rf dX7_counts_215 (by omega) (by omega) (fun y215 he215 => ?_)
                refine J_istore dX7_counts_216 rfl (by decide) ?_
                refine J_aload_n dX7_counts_218 rfl ?_
                refine J_get jf_X7_28 dX7_counts_219 hOgs92a0 hFgs92a0_8 ?_
                refine J_iload dX7_counts_222 rfl ?_
                refine Jz_iald (r := ((-2147483648), 2147483647)) jEq.rf dX7_counts_224 hAF20n92 rfl hvF20n92 (by omega) (by omega) (fun y224 hf224 hl224 hh224 => ?_)
                dsimp only at hl224 hh224
                clear hl224 hh224
                have hb224 := hx20 i5n92.toInt.toNat (by omega)
                rw [hf224] at hb224
                refine J_iload_n dX7_counts_225 rfl ?_
                refine J_iload dX7_counts_226 rfl ?_
                refine J_callS2 moX7_stepZ jw_ml_X7_119 jw_st_X7_stepZ dX7_counts_228 (w_X7_stepZ (d - 1) _ x1 y168 (by omega)   ) (by omega) (Nat.zero_le _) (Nat.zero_le _) (Nat.le_of_ble_eq_true rfl) (fun r228 V228 h228 => ?_)
                obtain ⟨⟨y228, rfl, hl228, hh228⟩, hE228⟩ := h228
                have hE228 := hE228.symm
                subst hE228
                refine Jz_iadd jEq.rf jEq.rf dX7_counts_231 (by omega) (by omega) (fun y231 he231 => ?_)
                refine J_istore dX7_counts_232 rfl (by decide) ?_
                refine J_aload_n dX7_counts_234 rfl ?_
                refine J_get jf_X7_55 dX7_counts_235 hOgs92a0 hFgs92a0_16 ?_
                refine J_iload dX7_counts_238 rfl ?_
                refine J_iload dX7_counts_240 rfl ?_
                refine J_iload dX7_counts_242 rfl ?_
                refine J_callS3 moX7_spot jw_ml_X7_177 jw_st_X7_spot dX7_counts_244 (w_X7_spot (d - 1) _ y184 y215 y231 (by omega)   (by (try simp only [he184.eq, true_and, and_true]) <;> omega) (by (try simp only [he184.eq, true_and, and_true]) <;> omega) (by (try simp only [he215.eq, true_and, and_true]) <;> omega) (by (try simp only [he215.eq, true_and, and_true]) <;> omega) (by (try simp only [he231.eq, true_and, and_true]) <;> omega) (by (try simp only [he231.eq, true_and, and_true]) <;> omega)) (by omega) (Nat.zero_le _) (Nat.zero_le _) (Nat.le_of_ble_eq_true rfl) (fun r244 V244 h244 => ?_)
                obtain ⟨⟨y244, rfl, hl244, hh244⟩, hE244⟩ := h244
                have hE244 := hE244.symm
                subst hE244
                obtain ⟨n247, f247, hA247, hN247, hM247, hv247⟩ := WT_arrI (r := (0, 1)) hW id rfl hb74
                obtain rfl := hM247 79507 rfl
                clear hN247 hM247
                refine Jz_zaldr (r := (0, 1)) jEq.rf dX7_counts_247 hA247 rfl hv247 (by omega) (by omega) (fun y247 hl247 hh247 => ?_)
                dsimp only at hl247 hh247
                refine Jz_if_ne (tgt := 485) jEq.rf dX7_counts_248 (by decide) (fun c248 => ?_) (fun c248 => ?_)
                · refine J_goto (tgt := 92) dX7_counts_485 (by decide) ?_
                  have hm0 : (F17n92 i5n92.toInt.toNat).toInt = y108.toInt := by rw [hf108]
                  have hm1 : (G111 i5n92.toInt.toNat).toInt = y108.toInt + 1 := by rw [hp111, he110.eq]
                  refine J.mask [true, true, true, true, true, true, false, false, false, false] ?_
                  exact ih92 _ i4n92 i5n92 gs92a0 G111 F18n92 F19n92 F20n92 hW he ha0 hb8 hb25 hb46 hb53 hb60 hb67 hb74 hb86 hkp hOgs92a0 hFgs92a0_11 hFgs92a0_12 hFgs92a0_4 hFgs92a0_6 hFgs92a0_7 hFgs92a0_8 hFgs92a0_16 hFgs92a0_17 hA111 hAF18n92 hAF19n92 hAF20n92 (by omega) (by omega) (fun k hk => (Nat.decEq k i5n92.toInt.toNat).byCases (fun hq => by rw [hq, hp111, he110.eq]; omega) (fun hq => by rw [ho111 k hq]; exact hrow k (by omega))) hx18 hx19 hx20 (by omega)
                · refine Jz_iinc 1 dX7_counts_251 rfl rfl (by decide) jEq.rf (by decide) (by omega) (by omega) (fun y251 he251 => ?_)
                  refine J_iload dX7_counts_254 rfl ?_
                  refine Jz_ldc 600000 jw_k_X7_180 dX7_counts_256 (by decide) (fun y256 he256 => ?_)
                  refine Jz_icmp_le (tgt := 276) he251 he256 dX7_counts_258 (by decide) (fun c258 => ?_) (fun c258 => ?_)
                  · refine J_aload_n dX7_counts_276 rfl ?_
                    refine J_get jf_X7_22 dX7_counts_277 hOgs92a0 hFgs92a0_6 ?_
                    refine J_iload dX7_counts_280 rfl ?_
                    refine Jz_iconst 1 dX7_counts_282 (by decide) (fun y282 he282 => ?_)
                    refine Jz_iadd jEq.rf he282 dX7_counts_283 (by omega) (by omega) (fun y283 he283 => ?_)
                    refine J_iload dX7_counts_284 rfl ?_
                    refine Jz_iast (r := ((-2147483648), 2147483647)) he283 he184 hW id dX7_counts_286 hAF18n92 rfl rfl (by omega) (by omega) (by omega) (by omega) (fun V286 G286 hW hx286 hA286 hp286 ho286 => ?_)
                    obtain ⟨hN286, hv286⟩ := WT_rngI (r := ((-2147483648), 2147483647)) hW id rfl hA286
                    clear hN286
                    have he := he.trans (hx286.sub (jsub_of rfl))
                    have hkp := hkp.trans (jkc.of hx286 (jnot_of rfl))
                    have ha0 := ha0.mono hx286.1
                    have hb8 := hb8.mono hx286.1
                    have hb25 := hb25.mono hx286.1
                    have hb46 := hb46.mono hx286.1
                    have hb53 := hb53.mono hx286.1
                    have hb60 := hb60.mono hx286.1
                    have hb67 := hb67.mono hx286.1
                    have hb74 := hb74.mono hx286.1
                    have hb86 := hb86.mono hx286.1
                    have hOgs92a0 := hx286.2 _ _ hOgs92a0 (jnot_of rfl)
                    have hKgs92a0 := hKgs92a0.mono hx286.1
                    have hAF19n92 := hx286.2 _ _ hAF19n92 (jnot_of rfl)
                    have hAF20n92 := hx286.2 _ _ hAF20n92 (jnot_of rfl)
                    have hA111 := hx286.2 _ _ hA111 (jnot_of rfl)
                    have hA247 := hx286.2 _ _ hA247 (jnot_of rfl)
                    refine J_aload_n dX7_counts_287 rfl ?_
                    refine J_get jf_X7_25 dX7_counts_288 hOgs92a0 hFgs92a0_7 ?_
                    refine J_iload dX7_counts_291 rfl ?_
                    refine Jz_iconst 1 dX7_counts_293 (by decide) (fun y293 he293 => ?_)
                    refine Jz_iadd jEq.rf he293 dX7_counts_294 (by omega) (by omega) (fun y294 he294 => ?_)
                    refine J_iload dX7_counts_295 rfl ?_
                    refine Jz_iast (r := ((-2147483648), 2147483647)) he294 he215 hW id dX7_counts_297 hAF19n92 rfl rfl (by omega) (by omega) (by omega) (by omega) (fun V297 G297 hW hx297 hA297 hp297 ho297 => ?_)
                    obtain ⟨hN297, hv297⟩ := WT_rngI (r := ((-2147483648), 2147483647)) hW id rfl hA297
                    clear hN297
                    have he := he.trans (hx297.sub (jsub_of rfl))
                    have hkp := hkp.trans (jkc.of hx297 (jnot_of rfl))
                    have ha0 := ha0.mono hx297.1
                    have hb8 := hb8.mono hx297.1
                    have hb25 := hb25.mono hx297.1
                    have hb46 := hb46.mono hx297.1
                    have hb53 := hb53.mono hx297.1
                    have hb60 := hb60.mono hx297.1
                    have hb67 := hb67.mono hx297.1
                    have hb74 := hb74.mono hx297.1
                    have hb86 := hb86.mono hx297.1
                    have hOgs92a0 := hx297.2 _ _ hOgs92a0 (jnot_of rfl)
                    have hKgs92a0 := hKgs92a0.mono hx297.1
                    have hAF20n92 := hx297.2 _ _ hAF20n92 (jnot_of rfl)
                    have hA111 := hx297.2 _ _ hA111 (jnot_of rfl)
                    have hA247 := hx297.2 _ _ hA247 (jnot_of rfl)
                    have hA286 := hx297.2 _ _ hA286 (jnot_of rfl)
                    refine J_aload_n dX7_counts_298 rfl ?_
                    refine J_get jf_X7_28 dX7_counts_299 hOgs92a0 hFgs92a0_8 ?_
                    refine J_iload dX7_counts_302 rfl ?_
                    refine Jz_iconst 1 dX7_counts_304 (by decide) (fun y304 he304 => ?_)
                    refine Jz_iadd jEq.rf he304 dX7_counts_305 (by omega) (by omega) (fun y305 he305 => ?_)
                    refine J_iload dX7_counts_306 rfl ?_
                    refine Jz_iast (r := ((-2147483648), 2147483647)) he305 he231 hW id dX7_counts_308 hAF20n92 rfl rfl (by omega) (by omega) (by omega) (by omega) (fun V308 G308 hW hx308 hA308 hp308 ho308 => ?_)
                    obtain ⟨hN308, hv308⟩ := WT_rngI (r := ((-2147483648), 2147483647)) hW id rfl hA308
                    clear hN308
                    have he := he.trans (hx308.sub (jsub_of rfl))
                    have hkp := hkp.trans (jkc.of hx308 (jnot_of rfl))
                    have ha0 := ha0.mono hx308.1
                    have hb8 := hb8.mono hx308.1
                    have hb25 := hb25.mono hx308.1
                    have hb46 := hb46.mono hx308.1
                    have hb53 := hb53.mono hx308.1
                    have hb60 := hb60.mono hx308.1
                    have hb67 := hb67.mono hx308.1
                    have hb74 := hb74.mono hx308.1
                    have hb86 := hb86.mono hx308.1
                    have hOgs92a0 := hx308.2 _ _ hOgs92a0 (jnot_of rfl)
                    have hKgs92a0 := hKgs92a0.mono hx308.1
                    have hA111 := hx308.2 _ _ hA111 (jnot_of rfl)
                    have hA247 := hx308.2 _ _ hA247 (jnot_of rfl)
                    have hA286 := hx308.2 _ _ hA286 (jnot_of rfl)
                    have hA297 := hx308.2 _ _ hA297 (jnot_of rfl)
                    refine J_aload_n dX7_counts_309 rfl ?_
                    refine J_get jf_X7_58 dX7_counts_310 hOgs92a0 hFgs92a0_17 ?_
                    refine J_iload dX7_counts_313 rfl ?_
                    refine Jz_iconst 1 dX7_counts_315 (by decide) (fun y315 he315 => ?_)
                    refine Jz_iadd jEq.rf he315 dX7_counts_316 (by omega) (by omega) (fun y316 he316 => ?_)
                    refine J_iload dX7_counts_317 rfl ?_
                    have K360 : ∀ (t0k360 : Int32), J tS mX7_counts d 360 [some (.ref a0), some (.int x1), some (.int x2), some (.int y5), some (.int y251), some (.int i5n92), some (.int y168), some (.int y184), some (.int y215), some (.int y231)] [.int t0k360, .int y316, .ref b86] V308 0 0 (fun r V => (jPost [.inr 5, .inl 40, .inl 23, .inl 17, .inl 18, .inl 19, .inl 20, .inl 41, .inl 26, .inl 46, .inl 24, .inl 25] V0 rV) r V ∧ jkc 5 [0, 23, 24, 26, 27, 28] V0 V) := by
                      intro  t0k360     
                      obtain ⟨n360, f360, hA360, hN360, hM360, hv360⟩ := WT_arrI (r := (-2147483648, 2147483647)) hW id rfl hb86
                      obtain rfl := hM360 22 rfl
                      clear hN360 hM360
                      refine Jz_iastw (r := ((-2147483648), 2147483647)) he316 jEq.rf hW id dX7_counts_360 hA360 rfl rfl (by omega) (by omega) (j_rng _).1 (j_rng _).2 (fun V360 hW hx360 => ?_)
                      have he := he.trans (hx360.sub (jsub_of rfl))
                      have hkp := hkp.trans (jkc.of hx360 (jnot_of rfl))
                      have ha0 := ha0.mono hx360.1
                      have hb8 := hb8.mono hx360.1
                      have hb25 := hb25.mono hx360.1
                      have hb46 := hb46.mono hx360.1
                      have hb53 := hb53.mono hx360.1
                      have hb60 := hb60.mono hx360.1
                      have hb67 := hb67.mono hx360.1
                      have hb74 := hb74.mono hx360.1
                      have hb86 := hb86.mono hx360.1
                      have hOgs92a0 := hx360.2 _ _ hOgs92a0 (jnot_of rfl)
                      have hKgs92a0 := hKgs92a0.mono hx360.1
                      have hA111 := hx360.2 _ _ hA111 (jnot_of rfl)
                      have hA247 := hx360.2 _ _ hA247 (jnot_of rfl)
                      have hA286 := hx360.2 _ _ hA286 (jnot_of rfl)
                      have hA297 := hx360.2 _ _ hA297 (jnot_of rfl)
                      have hA308 := hx360.2 _ _ hA308 (jnot_of rfl)
                      refine J_iload dX7_counts_361 rfl ?_
                      refine Jz_iconst 1 dX7_counts_363 (by decide) (fun y363 he363 => ?_)
                      refine Jz_iadd jEq.rf he363 dX7_counts_364 (by omega) (by omega) (fun y364 he364 => ?_)
                      refine J_iload_n dX7_counts_365 rfl ?_
                      refine Jz_icmp_ne (tgt := 459) he364 jEq.rf dX7_counts_366 (by decide) (fun c366 => ?_) (fun c366 => ?_)
                      · refine Jz_iinc 1 dX7_counts_459 rfl rfl (by decide) jEq.rf (by decide) (by omega) (by omega) (fun y459 he459 => ?_)
                        refine J_aload_n dX7_counts_462 rfl ?_
                        refine J_get jf_X7_19 dX7_counts_463 hOgs92a0 hFgs92a0_4 ?_
                        refine J_iload dX7_counts_466 rfl ?_
                        refine Jz_iconst (-1) dX7_counts_468 (by decide) (fun y468 he468 => ?_)
                        refine Jz_iast (r := ((-2147483648), 2147483647)) he459 he468 hW id dX7_counts_469 hA111 rfl rfl (by omega) (by omega) (by omega) (by omega) (fun V469 G469 hW hx469 hA469 hp469 ho469 => ?_)
                        obtain ⟨hN469, hv469⟩ := WT_rngI (r := ((-2147483648), 2147483647)) hW id rfl hA469
                        clear hN469
                        have he := he.trans (hx469.sub (jsub_of rfl))
                        have hkp := hkp.trans (jkc.of hx469 (jnot_of rfl))
                        have ha0 := ha0.mono hx469.1
                        have hb8 := hb8.mono hx469.1
                        have hb25 := hb25.mono hx469.1
                        have hb46 := hb46.mono hx469.1
                        have hb53 := hb53.mono hx469.1
                        have hb60 := hb60.mono hx469.1
                        have hb67 := hb67.mono hx469.1
                        have hb74 := hb74.mono hx469.1
                        have hb86 := hb86.mono hx469.1
                        have hOgs92a0 := hx469.2 _ _ hOgs92a0 (jnot_of rfl)
                        have hKgs92a0 := hKgs92a0.mono hx469.1
                        have hA247 := hx469.2 _ _ hA247 (jnot_of rfl)
                        have hA286 := hx469.2 _ _ hA286 (jnot_of rfl)
                        have hA297 := hx469.2 _ _ hA297 (jnot_of rfl)
                        have hA308 := hx469.2 _ _ hA308 (jnot_of rfl)
                        refine J_aload_n dX7_counts_470 rfl ?_
                        refine J_get jf_X7_55 dX7_counts_471 hOgs92a0 hFgs92a0_16 ?_
                        refine J_iload dX7_counts_474 rfl ?_
                        refine J_iload dX7_counts_476 rfl ?_
                        refine J_iload dX7_counts_478 rfl ?_
                        refine J_callS3 moX7_spot jw_ml_X7_177 jw_st_X7_spot dX7_counts_480 (w_X7_spot (d - 1) _ y184 y215 y231 (by omega)   (by (try simp only [he184.eq, true_and, and_true]) <;> omega) (by (try simp only [he184.eq, true_and, and_true]) <;> omega) (by (try simp only [he215.eq, true_and, and_true]) <;> omega) (by (try simp only [he215.eq, true_and, and_true]) <;> omega) (by (try simp only [he231.eq, true_and, and_true]) <;> omega) (by (try simp only [he231.eq, true_and, and_true]) <;> omega)) (by omega) (Nat.zero_le _) (Nat.zero_le _) (Nat.le_of_ble_eq_true rfl) (fun r480 V480 h480 => ?_)
                        obtain ⟨⟨y480, rfl, hl480, hh480⟩, hE480⟩ := h480
                        have hE480 := hE480.symm
                        subst hE480
                        refine Jz_iconst 1 dX7_counts_483 (by decide) (fun y483 he483 => ?_)
                        refine Jz_zastw (r := (0, 1)) jEq.rf he483 hW id dX7_counts_484 hA247 rfl rfl (by omega) (by omega) (by omega) (by omega) (fun _ h => vp_nar_b (by omega) (by omega)) (fun V484 hW hx484 => ?_)
                        have he := he.trans (hx484.sub (jsub_of rfl))
                        have hkp := hkp.trans (jkc.of hx484 (jnot_of rfl))
                        have ha0 := ha0.mono hx484.1
                        have hb8 := hb8.mono hx484.1
                        have hb25 := hb25.mono hx484.1
                        have hb46 := hb46.mono hx484.1
                        have hb53 := hb53.mono hx484.1
                        have hb60 := hb60.mono hx484.1
                        have hb67 := hb67.mono hx484.1
                        have hb74 := hb74.mono hx484.1
                        have hb86 := hb86.mono hx484.1
                        have hOgs92a0 := hx484.2 _ _ hOgs92a0 (jnot_of rfl)
                        have hKgs92a0 := hKgs92a0.mono hx484.1
                        have hA286 := hx484.2 _ _ hA286 (jnot_of rfl)
                        have hA297 := hx484.2 _ _ hA297 (jnot_of rfl)
                        have hA308 := hx484.2 _ _ hA308 (jnot_of rfl)
                        have hA469 := hx484.2 _ _ hA469 (jnot_of rfl)
                        refine J_goto (tgt := 92) dX7_counts_485 (by decide) ?_
                        have hm0 : (F17n92 i5n92.toInt.toNat).toInt = y108.toInt := by rw [hf108]
                        have hm1 : (G469 (i5n92.toInt + 1).toNat).toInt = -1 := by rw [hp469, he468.eq]
                        refine J.mask [true, true, true, true, true, true, false, false, false, false] ?_
                        exact ih92 _ y251 y459 gs92a0 G469 G286 G297 G308 hW he ha0 hb8 hb25 hb46 hb53 hb60 hb67 hb74 hb86 hkp hOgs92a0 hFgs92a0_11 hFgs92a0_12 hFgs92a0_4 hFgs92a0_6 hFgs92a0_7 hFgs92a0_8 hFgs92a0_16 hFgs92a0_17 hA469 hA286 hA297 hA308 (by (try simp only [he251.eq, he459.eq, true_and, and_true]) <;> omega) (by (try simp only [he251.eq, he459.eq, true_and, and_true]) <;> omega) (fun k hk => by rw [he459.eq] at hk; exact (Nat.decEq k (i5n92.toInt + 1).toNat).byCases (fun hq => by rw [hq, hp469, he468.eq]; omega) (fun hq => by rw [ho469 k hq]; exact (Nat.decEq k i5n92.toInt.toNat).byCases (fun hq => by rw [hq, hp111, he110.eq]; omega) (fun hq => by rw [ho111 k hq]; exact hrow k (by omega)))) (fun k hk => by rw [he459.eq] at hk; exact (Nat.decEq k (i5n92.toInt + 1).toNat).byCases (fun hq => by rw [hq, hp286, he184.eq]; omega) (fun hq => by rw [ho286 k hq]; exact hx18 k (by omega))) (fun k hk => by rw [he459.eq] at hk; exact (Nat.decEq k (i5n92.toInt + 1).toNat).byCases (fun hq => by rw [hq, hp297, he215.eq]; omega) (fun hq => by rw [ho297 k hq]; exact hx19 k (by omega))) (fun k hk => by rw [he459.eq] at hk; exact (Nat.decEq k (i5n92.toInt + 1).toNat).byCases (fun hq => by rw [hq, hp308, he231.eq]; omega) (fun hq => by rw [ho308 k hq]; exact hx20 k (by omega))) (by (try simp only [he251.eq, he459.eq, true_and, and_true]) <;> omega)
                      · refine J_aload_n dX7_counts_369 rfl ?_
                        refine J_iload_n dX7_counts_370 rfl ?_
                        refine Jz_putI hOgs92a0 hW id rfl jf_X7_109 jt_X7_5 jEq.rf dX7_counts_371 (by omega) (by omega) (fun _ _ => ⟨rfl, rfl⟩) (fun V371 fs371 hW hx371 hO371 hS371 hT371 hB371 => ?_)
                        have hK371 : jokO _ (jFs 5) fs371 := hW _ _ id hO371
                        have hF371_11 := (hT371 11 (by decide)).trans hFgs92a0_11
                        have hF371_12 := (hT371 12 (by decide)).trans hFgs92a0_12
                        have hF371_4 := (hT371 4 (by decide)).trans hFgs92a0_4
                        have hF371_6 := (hT371 6 (by decide)).trans hFgs92a0_6
                        have hF371_7 := (hT371 7 (by decide)).trans hFgs92a0_7
                        have hF371_8 := (hT371 8 (by decide)).trans hFgs92a0_8
                        have hF371_16 := (hT371 16 (by decide)).trans hFgs92a0_16
                        have hF371_17 := (hT371 17 (by decide)).trans hFgs92a0_17
                        have he := he.trans (hx371.sub (jsub_of rfl))
                        have hkp := hkp.trans (jkc.put hOgs92a0 hO371 hT371 hB371 (by decide))
                        have ha0 := ha0.mono hx371.1
                        have hb8 := hb8.mono hx371.1
                        have hb25 := hb25.mono hx371.1
                        have hb46 := hb46.mono hx371.1
                        have hb53 := hb53.mono hx371.1
                        have hb60 := hb60.mono hx371.1
                        have hb67 := hb67.mono hx371.1
                        have hb74 := hb74.mono hx371.1
                        have hb86 := hb86.mono hx371.1
                        have hA111 := hx371.2 _ _ hA111 (jnot_of rfl)
                        have hA247 := hx371.2 _ _ hA247 (jnot_of rfl)
                        have hA286 := hx371.2 _ _ hA286 (jnot_of rfl)
                        have hA297 := hx371.2 _ _ hA297 (jnot_of rfl)
                        have hA308 := hx371.2 _ _ hA308 (jnot_of rfl)
                        refine J_aload_n dX7_counts_374 rfl ?_
                        refine J_get jf_X7_41 dX7_counts_375 hO371 hF371_12 ?_
                        refine J_iload_n dX7_counts_378 rfl ?_
                        refine J_dup2 dX7_counts_379 rfl rfl ?_
                        obtain ⟨n380, f380, hA380, hN380, hM380, hv380⟩ := WT_arrI (r := (-2147483648, 2147483647)) hW id rfl hb25
                        obtain rfl := hM380 84 rfl
                        clear hN380 hM380
                        refine Jz_ialdw he5 dX7_counts_380 hA380 rfl (by omega) (by omega) (fun y380 => ?_)
                        refine Jz_iconst 1 dX7_counts_381 (by decide) (fun y381 he381 => ?_)
                        refine Jz_iaddw dX7_counts_382 (fun y382  => ?_)
                        refine Jz_iastw (r := ((-2147483648), 2147483647)) he5 jEq.rf hW id dX7_counts_383 hA380 rfl rfl (by omega) (by omega) (j_rng _).1 (j_rng _).2 (fun V383 hW hx383 => ?_)
                        have he := he.trans (hx383.sub (jsub_of rfl))
                        have hkp := hkp.trans (jkc.of hx383 (jnot_of rfl))
                        have ha0 := ha0.mono hx383.1
                        have hb8 := hb8.mono hx383.1
                        have hb25 := hb25.mono hx383.1
                        have hb46 := hb46.mono hx383.1
                        have hb53 := hb53.mono hx383.1
                        have hb60 := hb60.mono hx383.1
                        have hb67 := hb67.mono hx383.1
                        have hb74 := hb74.mono hx383.1
                        have hb86 := hb86.mono hx383.1
                        have hO371 := hx383.2 _ _ hO371 (jnot_of rfl)
                        have hK371 := hK371.mono hx383.1
                        have hA111 := hx383.2 _ _ hA111 (jnot_of rfl)
                        have hA247 := hx383.2 _ _ hA247 (jnot_of rfl)
                        have hA286 := hx383.2 _ _ hA286 (jnot_of rfl)
                        have hA297 := hx383.2 _ _ hA297 (jnot_of rfl)
                        have hA308 := hx383.2 _ _ hA308 (jnot_of rfl)
                        refine J_aload_n dX7_counts_384 rfl ?_
                        obtain ⟨w385, hF385, b385, rfl, hb385⟩ := hK371.2 13 (.inr (some (.inl 46))) rfl
                        refine J_get jf_X7_44 dX7_counts_385 hO371 hF385 ?_
                        refine J_iload_n dX7_counts_388 rfl ?_
                        refine J_dup2 dX7_counts_389 rfl rfl ?_
                        obtain ⟨n390, f390, hA390, hN390, hM390⟩ := WT_arrL hW id rfl hb385
                        obtain rfl := hM390 84 rfl
                        clear hN390 hM390
                        refine Jz_lald he5 dX7_counts_390 hA390 rfl (by omega) (by omega) (fun y390 => ?_)
                        refine J_iload_n dX7_counts_391 rfl ?_
                        refine J_iload dX7_counts_392 rfl ?_
                        refine J_iload dX7_counts_394 rfl ?_
                        refine J_iload dX7_counts_396 rfl ?_
                        refine J_callS4 moX7_square jw_ml_X7_152 jw_st_X7_square dX7_counts_398 (w_X7_square (d - 1) _ x1 y184 y215 y231 (by omega)   ) (by omega) (Nat.zero_le _) (Nat.zero_le _) (Nat.le_of_ble_eq_true rfl) (fun r398 V398 h398 => ?_)
                        obtain ⟨⟨y398, rfl, hl398, hh398⟩, hE398⟩ := h398
                        have hE398 := hE398.symm
                        subst hE398
                        clear hl398 hh398
                        refine J_i2l dX7_counts_401 rfl ?_
                        refine J_ladd dX7_counts_402 ?_
                        refine Jz_last he5 hW id dX7_counts_403 hA390 rfl rfl (by omega) (by omega) (fun V403 hW hx403 => ?_)
                        have he := he.trans (hx403.sub (jsub_of rfl))
                        have hkp := hkp.trans (jkc.of hx403 (jnot_of rfl))
                        have ha0 := ha0.mono hx403.1
                        have hb8 := hb8.mono hx403.1
                        have hb25 := hb25.mono hx403.1
                        have hb46 := hb46.mono hx403.1
                        have hb53 := hb53.mono hx403.1
                        have hb60 := hb60.mono hx403.1
                        have hb67 := hb67.mono hx403.1
                        have hb74 := hb74.mono hx403.1
                        have hb86 := hb86.mono hx403.1
                        have hb385 := hb385.mono hx403.1
                        have hO371 := hx403.2 _ _ hO371 (jnot_of rfl)
                        have hK371 := hK371.mono hx403.1
                        have hA111 := hx403.2 _ _ hA111 (jnot_of rfl)
                        have hA247 := hx403.2 _ _ hA247 (jnot_of rfl)
                        have hA286 := hx403.2 _ _ hA286 (jnot_of rfl)
                        have hA297 := hx403.2 _ _ hA297 (jnot_of rfl)
                        have hA308 := hx403.2 _ _ hA308 (jnot_of rfl)
                        refine J_aload_n dX7_counts_404 rfl ?_
                        obtain ⟨w405, hF405, b405, rfl, hb405⟩ := hK371.2 14 (.inr (some (.inl 24))) rfl
                        refine J_get jf_X7_48 dX7_counts_405 hO371 hF405 ?_
                        refine J_iload_n dX7_counts_408 rfl ?_
                        refine J_dup2 dX7_counts_409 rfl rfl ?_
                        obtain ⟨n410, f410, hA410, hN410, hM410, hv410⟩ := WT_arrI (r := (-2147483648, 2147483647)) hW id rfl hb405
                        obtain rfl := hM410 84 rfl
                        clear hN410 hM410
                        refine Jz_ialdw he5 dX7_counts_410 hA410 rfl (by omega) (by omega) (fun y410 => ?_)
                        refine J_aload_n dX7_counts_411 rfl ?_
                        refine J_iload_n dX7_counts_412 rfl ?_
                        refine Jw_callV1 (q9 := (RX7, TX7, 34)) moX7_isRing jw_ml_X7_156 jw_im_X7_isRing jw_se_X7_isRing ha0 rfl rfl dX7_counts_413 (w_X7_isRing (d - 1) _ a0 x1 (by omega) hW  ha0) (by omega) (Nat.zero_le _) (Nat.zero_le _) (Nat.le_of_ble_eq_true rfl) (fun r413 V413 h413 => ?_)
                        obtain ⟨⟨y413, rfl, hl413, hh413⟩, hE413⟩ := h413
                        have hE413 := hE413.symm
                        subst hE413
                        have K424 : ∀ (t0k424 : Int32), J tS mX7_counts d 424 [some (.ref a0), some (.int x1), some (.int x2), some (.int y5), some (.int y251), some (.int i5n92), some (.int y168), some (.int y184), some (.int y215), some (.int y231)] [.int t0k424, .int y410, .int y5, .ref b405] V403 0 0 (fun r V => (jPost [.inr 5, .inl 40, .inl 23, .inl 17, .inl 18, .inl 19, .inl 20, .inl 41, .inl 26, .inl 46, .inl 24, .inl 25] V0 rV) r V ∧ jkc 5 [0, 23, 24, 26, 27, 28] V0 V) := by
                          intro  t0k424     
                          refine Jz_iaddw dX7_counts_424 (fun y424  => ?_)
                          refine Jz_iastw (r := ((-2147483648), 2147483647)) he5 jEq.rf hW id dX7_counts_425 hA410 rfl rfl (by omega) (by omega) (j_rng _).1 (j_rng _).2 (fun V425 hW hx425 => ?_)
                          have he := he.trans (hx425.sub (jsub_of rfl))
                          have hkp := hkp.trans (jkc.of hx425 (jnot_of rfl))
                          have ha0 := ha0.mono hx425.1
                          have hb8 := hb8.mono hx425.1
                          have hb25 := hb25.mono hx425.1
                          have hb46 := hb46.mono hx425.1
                          have hb53 := hb53.mono hx425.1
                          have hb60 := hb60.mono hx425.1
                          have hb67 := hb67.mono hx425.1
                          have hb74 := hb74.mono hx425.1
                          have hb86 := hb86.mono hx425.1
                          have hb385 := hb385.mono hx425.1
                          have hb405 := hb405.mono hx425.1
                          have hO371 := hx425.2 _ _ hO371 (jnot_of rfl)
                          have hK371 := hK371.mono hx425.1
                          have hA111 := hx425.2 _ _ hA111 (jnot_of rfl)
                          have hA247 := hx425.2 _ _ hA247 (jnot_of rfl)
                          have hA286 := hx425.2 _ _ hA286 (jnot_of rfl)
                          have hA297 := hx425.2 _ _ hA297 (jnot_of rfl)
                          have hA308 := hx425.2 _ _ hA308 (jnot_of rfl)
                          refine J_aload_n dX7_counts_426 rfl ?_
                          obtain ⟨w427, hF427, b427, rfl, hb427⟩ := hK371.2 15 (.inr (some (.inl 25))) rfl
                          refine J_get jf_X7_51 dX7_counts_427 hO371 hF427 ?_
                          refine J_iload_n dX7_counts_430 rfl ?_
                          refine J_dup2 dX7_counts_431 rfl rfl ?_
                          obtain ⟨n432, f432, hA432, hN432, hM432, hv432⟩ := WT_arrI (r := (-2147483648, 2147483647)) hW id rfl hb427
                          obtain rfl := hM432 84 rfl
                          clear hN432 hM432
                          refine Jz_ialdw he5 dX7_counts_432 hA432 rfl (by omega) (by omega) (fun y432 => ?_)
                          refine J_iload dX7_counts_433 rfl ?_
                          have K454 : ∀ (t0k454 : Int32), J tS mX7_counts d 454 [some (.ref a0), some (.int x1), some (.int x2), some (.int y5), some (.int y251), some (.int i5n92), some (.int y168), some (.int y184), some (.int y215), some (.int y231)] [.int t0k454, .int y432, .int y5, .ref b427] V425 0 0 (fun r V => (jPost [.inr 5, .inl 40, .inl 23, .inl 17, .inl 18, .inl 19, .inl 20, .inl 41, .inl 26, .inl 46, .inl 24, .inl 25] V0 rV) r V ∧ jkc 5 [0, 23, 24, 26, 27, 28] V0 V) := by
                            intro  t0k454     
                            refine Jz_iaddw dX7_counts_454 (fun y454  => ?_)
                            refine Jz_iastw (r := ((-2147483648), 2147483647)) he5 jEq.rf hW id dX7_counts_455 hA432 rfl rfl (by omega) (by omega) (j_rng _).1 (j_rng _).2 (fun V455 hW hx455 => ?_)
                            have he := he.trans (hx455.sub (jsub_of rfl))
                            have hkp := hkp.trans (jkc.of hx455 (jnot_of rfl))
                            have ha0 := ha0.mono hx455.1
                            have hb8 := hb8.mono hx455.1
                            have hb25 := hb25.mono hx455.1
                            have hb46 := hb46.mono hx455.1
                            have hb53 := hb53.mono hx455.1
                            have hb60 := hb60.mono hx455.1
                            have hb67 := hb67.mono hx455.1
                            have hb74 := hb74.mono hx455.1
                            have hb86 := hb86.mono hx455.1
                            have hb385 := hb385.mono hx455.1
                            have hb405 := hb405.mono hx455.1
                            have hb427 := hb427.mono hx455.1
                            have hO371 := hx455.2 _ _ hO371 (jnot_of rfl)
                            have hK371 := hK371.mono hx455.1
                            have hA111 := hx455.2 _ _ hA111 (jnot_of rfl)
                            have hA247 := hx455.2 _ _ hA247 (jnot_of rfl)
                            have hA286 := hx455.2 _ _ hA286 (jnot_of rfl)
                            have hA297 := hx455.2 _ _ hA297 (jnot_of rfl)
                            have hA308 := hx455.2 _ _ hA308 (jnot_of rfl)
                            refine J_goto (tgt := 485) dX7_counts_456 (by decide) ?_
                            refine J_goto (tgt := 92) dX7_counts_485 (by decide) ?_
                            have hm0 : (F17n92 i5n92.toInt.toNat).toInt = y108.toInt := by rw [hf108]
                            have hm1 : (G111 i5n92.toInt.toNat).toInt = y108.toInt + 1 := by rw [hp111, he110.eq]
                            refine J.mask [true, true, true, true, true, true, false, false, false, false] ?_
                            exact ih92 _ y251 i5n92 fs371 G111 G286 G297 G308 hW he ha0 hb8 hb25 hb46 hb53 hb60 hb67 hb74 hb86 hkp hO371 hF371_11 hF371_12 hF371_4 hF371_6 hF371_7 hF371_8 hF371_16 hF371_17 hA111 hA286 hA297 hA308 (by (try simp only [he251.eq, true_and, and_true]) <;> omega) (by (try simp only [he251.eq, true_and, and_true]) <;> omega) (fun k hk => (Nat.decEq k i5n92.toInt.toNat).byCases (fun hq => by rw [hq, hp111, he110.eq]; omega) (fun hq => by rw [ho111 k hq]; exact hrow k (by omega))) (fun k hk => by rw [ho286 k (by omega)]; exact hx18 k hk) (fun k hk => by rw [ho297 k (by omega)]; exact hx19 k hk) (fun k hk => by rw [ho308 k (by omega)]; exact hx20 k hk) (by (try simp only [he251.eq, true_and, and_true]) <;> omega)
                          refine Jz_if_le (tgt := 453) he184 dX7_counts_435 (by decide) (fun c435 => ?_) (fun c435 => ?_)
                          · refine Jz_iconst 0 dX7_counts_453 (by decide) (fun y453 he453 => ?_)
                            exact K454  y453  
                          · refine J_aload_n dX7_counts_438 rfl ?_
                            refine J_get jf_X7_58 dX7_counts_439 hO371 hF371_17 ?_
                            refine J_iload_n dX7_counts_442 rfl ?_
                            obtain ⟨n443, f443, hA443, hN443, hM443, hv443⟩ := WT_arrI (r := (-2147483648, 2147483647)) hW id rfl hb86
                            obtain rfl := hM443 22 rfl
                            clear hN443 hM443
                            refine Jz_ialdw jEq.rf dX7_counts_443 hA443 rfl (by omega) (by omega) (fun y443 => ?_)
                            refine J_iload dX7_counts_444 rfl ?_
                            refine Jz_icmp_ne (tgt := 453) jEq.rf he184 dX7_counts_446 (by decide) (fun c446 => ?_) (fun c446 => ?_)
                            · refine Jz_iconst 0 dX7_counts_453 (by decide) (fun y453 he453 => ?_)
                              exact K454  y453  
                            · refine Jz_iconst 1 dX7_counts_449 (by decide) (fun y449 he449 => ?_)
                              refine J_goto (tgt := 454) dX7_counts_450 (by decide) ?_
                              exact K454  y449  
                        refine Jz_if_eq (tgt := 423) jEq.rf dX7_counts_416 (by decide) (fun c416 => ?_) (fun c416 => ?_)
                        · refine Jz_iconst 0 dX7_counts_423 (by decide) (fun y423 he423 => ?_)
                          exact K424  y423  
                        · refine Jz_iconst 1 dX7_counts_419 (by decide) (fun y419 he419 => ?_)
                          refine J_goto (tgt := 424) dX7_counts_420 (by decide) ?_
                          exact K424  y419  
                    refine Jz_if_le (tgt := 332) he184 dX7_counts_319 (by decide) (fun c319 => ?_) (fun c319 => ?_)
                    · refine Jz_iconst (-1) dX7_counts_332 (by decide) (fun y332 he332 => ?_)
                      refine J_goto (tgt := 360) dX7_counts_333 (by decide) ?_
                      exact K360  y332  
                    · refine J_aload_n dX7_counts_322 rfl ?_
                      refine J_get jf_X7_58 dX7_counts_323 hOgs92a0 hFgs92a0_17 ?_
                      refine J_iload dX7_counts_326 rfl ?_
                      obtain ⟨n328, f328, hA328, hN328, hM328, hv328⟩ := WT_arrI (r := (-2147483648, 2147483647)) hW id rfl hb86
                      obtain rfl := hM328 22 rfl
                      clear hN328 hM328
                      refine Jz_ialdw jEq.rf dX7_counts_328 hA328 rfl (by omega) (by omega) (fun y328 => ?_)
                      refine Jz_if_ge (tgt := 336) jEq.rf dX7_counts_329 (by decide) (fun c329 => ?_) (fun c329 => ?_)
                      · refine J_iload dX7_counts_336 rfl ?_
                        refine J_aload_n dX7_counts_338 rfl ?_
                        refine J_get jf_X7_58 dX7_counts_339 hOgs92a0 hFgs92a0_17 ?_
                        refine J_iload dX7_counts_342 rfl ?_
                        refine Jz_ialdw jEq.rf dX7_counts_344 hA328 rfl (by omega) (by omega) (fun y344 => ?_)
                        refine Jz_icmp_le (tgt := 353) he184 jEq.rf dX7_counts_345 (by decide) (fun c345 => ?_) (fun c345 => ?_)
                        · refine J_aload_n dX7_counts_353 rfl ?_
                          refine J_get jf_X7_58 dX7_counts_354 hOgs92a0 hFgs92a0_17 ?_
                          refine J_iload dX7_counts_357 rfl ?_
                          refine Jz_ialdw jEq.rf dX7_counts_359 hA328 rfl (by omega) (by omega) (fun y359 => ?_)
                          exact K360  y359  
                        · refine J_iload dX7_counts_348 rfl ?_
                          refine J_goto (tgt := 360) dX7_counts_350 (by decide) ?_
                          exact K360  y184  
                      · refine Jz_iconst (-1) dX7_counts_332 (by decide) (fun y332 he332 => ?_)
                        refine J_goto (tgt := 360) dX7_counts_333 (by decide) ?_
                        exact K360  y332  
                  · refine J_aload_n dX7_counts_261 rfl ?_
                    refine J_get jf_X7_41 dX7_counts_262 hOgs92a0 hFgs92a0_12 ?_
                    refine J_iload_n dX7_counts_265 rfl ?_
                    refine Jz_bipush (-5) dX7_counts_266 (by decide) (fun y266 he266 => ?_)
                    obtain ⟨n268, f268, hA268, hN268, hM268, hv268⟩ := WT_arrI (r := (-2147483648, 2147483647)) hW id rfl hb25
                    obtain rfl := hM268 84 rfl
                    clear hN268 hM268
                    refine Jz_iastw (r := ((-2147483648), 2147483647)) he5 he266 hW id dX7_counts_268 hA268 rfl rfl (by omega) (by omega) (by omega) (by omega) (fun V268 hW hx268 => ?_)
                    have he := he.trans (hx268.sub (jsub_of rfl))
                    have hkp := hkp.trans (jkc.of hx268 (jnot_of rfl))
                    have ha0 := ha0.mono hx268.1
                    have hb8 := hb8.mono hx268.1
                    have hb25 := hb25.mono hx268.1
                    have hb46 := hb46.mono hx268.1
                    have hb53 := hb53.mono hx268.1
                    have hb60 := hb60.mono hx268.1
                    have hb67 := hb67.mono hx268.1
                    have hb74 := hb74.mono hx268.1
                    have hb86 := hb86.mono hx268.1
                    have hOgs92a0 := hx268.2 _ _ hOgs92a0 (jnot_of rfl)
                    have hKgs92a0 := hKgs92a0.mono hx268.1
                    have hAF18n92 := hx268.2 _ _ hAF18n92 (jnot_of rfl)
                    have hAF19n92 := hx268.2 _ _ hAF19n92 (jnot_of rfl)
                    have hAF20n92 := hx268.2 _ _ hAF20n92 (jnot_of rfl)
                    have hA111 := hx268.2 _ _ hA111 (jnot_of rfl)
                    have hA247 := hx268.2 _ _ hA247 (jnot_of rfl)
                    refine J_aload_n dX7_counts_269 rfl ?_
                    refine J_iload dX7_counts_270 rfl ?_
                    refine Jw_callV1 (q9 := (RX7, TX7, 34)) moX7_forgets jw_ml_X7_181 jw_im_X7_forgets jw_se_X7_forgets ha0 rfl rfl dX7_counts_272 (w_X7_forgets (d - 1) _ a0 i5n92 b53 b60 b67 F18n92 F19n92 F20n92 (by omega) hW  ha0 ⟨_, hOgs92a0, hFgs92a0_6⟩ ⟨_, hOgs92a0, hFgs92a0_7⟩ ⟨_, hOgs92a0, hFgs92a0_8⟩ hAF18n92 hAF19n92 hAF20n92 (by omega) (fun k hk => by have := hx18 k hk; omega) (fun k hk => by have := hx19 k hk; omega) (fun k hk => by have := hx20 k hk; omega)) (by omega) (Nat.zero_le _) (Nat.zero_le _) (Nat.le_of_ble_eq_true rfl) (fun r272 V272 h272 => ?_)
                    obtain ⟨hW, hx272, hr272⟩ := h272
                    have he := he.trans (hx272.sub (jsub_of rfl))
                    have hkp := hkp.trans (jkc.of hx272 (jnot_of rfl))
                    have ha0 := ha0.mono hx272.1
                    have hb8 := hb8.mono hx272.1
                    have hb25 := hb25.mono hx272.1
                    have hb46 := hb46.mono hx272.1
                    have hb53 := hb53.mono hx272.1
                    have hb60 := hb60.mono hx272.1
                    have hb67 := hb67.mono hx272.1
                    have hb74 := hb74.mono hx272.1
                    have hb86 := hb86.mono hx272.1
                    have hOgs92a0 := hx272.2 _ _ hOgs92a0 (jnot_of rfl)
                    have hKgs92a0 := hKgs92a0.mono hx272.1
                    have hAF18n92 := hx272.2 _ _ hAF18n92 (jnot_of rfl)
                    have hAF19n92 := hx272.2 _ _ hAF19n92 (jnot_of rfl)
                    have hAF20n92 := hx272.2 _ _ hAF20n92 (jnot_of rfl)
                    have hA111 := hx272.2 _ _ hA111 (jnot_of rfl)
                    cases hr272
                    exact J_ret (r := none) dX7_counts_275 ⟨rfl, rfl⟩ (⟨⟨hW, he, rfl⟩, hkp⟩)
              · refine J_aload_n dX7_counts_126 rfl ?_
                refine J_get jf_X7_55 dX7_counts_127 hOgs92a0 hFgs92a0_16 ?_
                refine J_aload_n dX7_counts_130 rfl ?_
                refine J_get jf_X7_22 dX7_counts_131 hOgs92a0 hFgs92a0_6 ?_
                refine J_iload dX7_counts_134 rfl ?_
                refine Jz_iald (r := ((-2147483648), 2147483647)) jEq.rf dX7_counts_136 hAF18n92 rfl hvF18n92 (by omega) (by omega) (fun y136 hf136 hl136 hh136 => ?_)
                dsimp only at hl136 hh136
                clear hl136 hh136
                have hb136 := hx18 i5n92.toInt.toNat (by omega)
                rw [hf136] at hb136
                refine J_aload_n dX7_counts_137 rfl ?_
                refine J_get jf_X7_25 dX7_counts_138 hOgs92a0 hFgs92a0_7 ?_
                refine J_iload dX7_counts_141 rfl ?_
                refine Jz_iald (r := ((-2147483648), 2147483647)) jEq.rf dX7_counts_143 hAF19n92 rfl hvF19n92 (by omega) (by omega) (fun y143 hf143 hl143 hh143 => ?_)
                dsimp only at hl143 hh143
                clear hl143 hh143
                have hb143 := hx19 i5n92.toInt.toNat (by omega)
                rw [hf143] at hb143
                refine J_aload_n dX7_counts_144 rfl ?_
                refine J_get jf_X7_28 dX7_counts_145 hOgs92a0 hFgs92a0_8 ?_
                refine J_iload dX7_counts_148 rfl ?_
                refine Jz_iald (r := ((-2147483648), 2147483647)) jEq.rf dX7_counts_150 hAF20n92 rfl hvF20n92 (by omega) (by omega) (fun y150 hf150 hl150 hh150 => ?_)
                dsimp only at hl150 hh150
                clear hl150 hh150
                have hb150 := hx20 i5n92.toInt.toNat (by omega)
                rw [hf150] at hb150
                refine J_callS3 moX7_spot jw_ml_X7_177 jw_st_X7_spot dX7_counts_151 (w_X7_spot (d - 1) _ y136 y143 y150 (by omega)   (by omega) (by omega) (by omega) (by omega) (by omega) (by omega)) (by omega) (Nat.zero_le _) (Nat.zero_le _) (Nat.le_of_ble_eq_true rfl) (fun r151 V151 h151 => ?_)
                obtain ⟨⟨y151, rfl, hl151, hh151⟩, hE151⟩ := h151
                have hE151 := hE151.symm
                subst hE151
                refine Jz_iconst 0 dX7_counts_154 (by decide) (fun y154 he154 => ?_)
                obtain ⟨n155, f155, hA155, hN155, hM155, hv155⟩ := WT_arrI (r := (0, 1)) hW id rfl hb74
                obtain rfl := hM155 79507 rfl
                clear hN155 hM155
                refine Jz_zastw (r := (0, 1)) jEq.rf he154 hW id dX7_counts_155 hA155 rfl rfl (by omega) (by omega) (by omega) (by omega) (fun _ h => vp_nar_b (by omega) (by omega)) (fun V155 hW hx155 => ?_)
                have he := he.trans (hx155.sub (jsub_of rfl))
                have hkp := hkp.trans (jkc.of hx155 (jnot_of rfl))
                have ha0 := ha0.mono hx155.1
                have hb8 := hb8.mono hx155.1
                have hb25 := hb25.mono hx155.1
                have hb46 := hb46.mono hx155.1
                have hb53 := hb53.mono hx155.1
                have hb60 := hb60.mono hx155.1
                have hb67 := hb67.mono hx155.1
                have hb74 := hb74.mono hx155.1
                have hb86 := hb86.mono hx155.1
                have hOgs92a0 := hx155.2 _ _ hOgs92a0 (jnot_of rfl)
                have hKgs92a0 := hKgs92a0.mono hx155.1
                have hAF18n92 := hx155.2 _ _ hAF18n92 (jnot_of rfl)
                have hAF19n92 := hx155.2 _ _ hAF19n92 (jnot_of rfl)
                have hAF20n92 := hx155.2 _ _ hAF20n92 (jnot_of rfl)
                have hA111 := hx155.2 _ _ hA111 (jnot_of rfl)
                refine Jz_iinc (-1) dX7_counts_156 rfl rfl (by decide) jEq.rf (by decide) (by omega) (by omega) (fun y156 he156 => ?_)
                refine J_goto (tgt := 92) dX7_counts_159 (by decide) ?_
                have hm0 : (F17n92 i5n92.toInt.toNat).toInt = y108.toInt := by rw [hf108]
                have hm1 : -1 ≤ (G111 (i5n92.toInt + (-1)).toNat).toInt := (Int.decLt i5n92.toInt 1).byCases (fun hz => by rw [show (i5n92.toInt + (-1)).toNat = i5n92.toInt.toNat by omega, hp111, he110.eq]; omega) (fun hz => by rw [ho111 _ (by omega)]; exact (hrow _ (by omega)).1)
                refine J.mask [true, true, true, true, true, true, false, false, false, false] ?_
                exact ih92 _ i4n92 y156 gs92a0 G111 F18n92 F19n92 F20n92 hW he ha0 hb8 hb25 hb46 hb53 hb60 hb67 hb74 hb86 hkp hOgs92a0 hFgs92a0_11 hFgs92a0_12 hFgs92a0_4 hFgs92a0_6 hFgs92a0_7 hFgs92a0_8 hFgs92a0_16 hFgs92a0_17 hA111 hAF18n92 hAF19n92 hAF20n92 (by (try simp only [he156.eq, true_and, and_true]) <;> omega) (by (try simp only [he156.eq, true_and, and_true]) <;> omega) (fun k hk => by rw [he156.eq] at hk; rw [ho111 k (by omega)]; exact hrow k (by omega)) (fun k hk => by rw [he156.eq] at hk; exact hx18 k (by omega)) (fun k hk => by rw [he156.eq] at hk; exact hx19 k (by omega)) (fun k hk => by rw [he156.eq] at hk; exact hx20 k (by omega)) (by (try simp only [he156.eq, true_and, and_true]) <;> omega)
      refine J.mask [true, true, true, true, true, true, false, false, false, false] ?_
      exact L92 _ _ y39 y42 fs8 G51 G58 G65 G72 hW he ha0 hb8 hb25 hb46 hb53 hb60 hb67 hb74 hb86 hkp hO8 hF8 hF25 hF46 hF53 hF60 hF67 hF74 hF86 hA51 hA58 hA65 hA72 (by (try simp only [he39.eq, he42.eq, true_and, and_true]) <;> omega) (by (try simp only [he39.eq, he42.eq, true_and, and_true]) <;> omega) (fun k hk => by rw [he42.eq] at hk; rw [show k = Int.toNat 0 by omega, hp51, he50.eq]; have hjd := jdir_cases x1.toInt; omega) (fun k hk => by rw [he42.eq] at hk; rw [show k = Int.toNat 0 by omega, hp58, he57.eq]; omega) (fun k hk => by rw [he42.eq] at hk; rw [show k = Int.toNat 0 by omega, hp65, he64.eq]; omega) (fun k hk => by rw [he42.eq] at hk; rw [show k = Int.toNat 0 by omega, hp72, he71.eq]; omega) (Nat.lt_succ_self _)
    refine Jz_if_ne (tgt := 37) jEq.rf dX7_counts_30 (by decide) (fun c30 => ?_) (fun c30 => ?_)
    · refine Jz_iconst 0 dX7_counts_37 (by decide) (fun y37 he37 => ?_)
      exact K38  y37  
    · refine Jz_iconst 1 dX7_counts_33 (by decide) (fun y33 he33 => ?_)
      refine J_goto (tgt := 38) dX7_counts_34 (by decide) ?_
      exact K38  y33  
  · exact J_ret (r := none) dX7_counts_16 ⟨rfl, rfl⟩ (⟨⟨hW, he, rfl⟩, hkp⟩)
set_option maxRecDepth 100000 in
set_option maxHeartbeats 8000000 in
theorem w_X7_walks {tS : jTS} (d : Nat) (V0 : jH) (a0 : Nat) (x1 : Int32) (x2 : Int32) (hd : 3 ≤ d) (hW : WT V0) (ha0 : jis V0 (.inr 5) a0) : jTot tS mX7_walks d [.ref a0, .int x1, .int x2] V0 0 0 (fun r V => (jPost [.inr 5, .inl 40, .inl 23, .inl 17, .inl 18, .inl 19, .inl 20, .inl 41, .inl 26, .inl 46, .inl 24, .inl 25] V0 (fun r _ => ∃ y : Int32, r = some (.int y) ∧ ((-2147483648) ≤ y.toInt) ∧ (y.toInt ≤ 2147483647))) r V ∧ jkc 5 [0, 23, 24, 26, 27, 28] V0 V) := by
  refine jTot.of_J [some (.ref a0), some (.int x1), some (.int x2)] moX7_walks (Nat.le_of_ble_eq_true rfl) rfl ?_
  have hrx1 := j_rng x1
  have hrx2 := j_rng x2
  have he : jeff [.inr 5, .inl 40, .inl 23, .inl 17, .inl 18, .inl 19, .inl 20, .inl 41, .inl 26, .inl 46, .inl 24, .inl 25] V0 V0 := jeff.refl _ _
  have hkp : jkc 5 [0, 23, 24, 26, 27, 28] V0 V0 := jkc.rf
  refine J_iload_n dX7_walks_0 rfl ?_
  refine J_callS1 moX7_isGround jw_ml_X7_184 jw_st_X7_isGround dX7_walks_1 (w_X7_isGround (d - 1) _ x1 (by omega)   ) (by omega) (Nat.zero_le _) (Nat.zero_le _) (Nat.le_of_ble_eq_true rfl) (fun r1 V1 h1 => ?_)
  obtain ⟨⟨y1, rfl, hl1, hh1, hI1_0⟩, hE1⟩ := h1
  have hE1 := hE1.symm
  subst hE1
  refine Jz_if_eq (tgt := 17) jEq.rf dX7_walks_4 (by decide) (fun c4 => ?_) (fun c4 => ?_)
  · refine Jz_bipush (-2) dX7_walks_17 (by decide) (fun y17 he17 => ?_)
    exact J_ret (r := some (.int _)) dX7_walks_19 ⟨rfl, _, rfl, rfl⟩ (⟨⟨hW, he, ⟨_, rfl, (j_rng _).1, (j_rng _).2⟩⟩, hkp⟩)
  · have q4_0 := hI1_0.of (by omega)
    refine J_iload_n dX7_walks_7 rfl ?_
    refine Jz_iconst 0 dX7_walks_8 (by decide) (fun y8 he8 => ?_)
    refine Jz_bipush 20 dX7_walks_9 (by decide) (fun y9 he9 => ?_)
    refine J_callS3 moX7_in jw_ml_X7_105 jw_st_X7_in dX7_walks_11 (w_X7_in (d - 1) _ x2 y8 y9 (by omega)   ) (by omega) (Nat.zero_le _) (Nat.zero_le _) (Nat.le_of_ble_eq_true rfl) (fun r11 V11 h11 => ?_)
    obtain ⟨⟨y11, rfl, hl11, hh11, hI11_0, hI11_1⟩, hE11⟩ := h11
    have hE11 := hE11.symm
    subst hE11
    refine Jz_if_ne (tgt := 20) jEq.rf dX7_walks_14 (by decide) (fun c14 => ?_) (fun c14 => ?_)
    · have q14_0 := hI11_0.of (by omega)
      try simp only [he8.eq, he9.eq] at q14_0
      refine J_aload_n dX7_walks_20 rfl ?_
      refine J_iload_n dX7_walks_21 rfl ?_
      refine J_iload_n dX7_walks_22 rfl ?_
      refine Jw_callV2 (q9 := (RX7, TX7, 34)) moX7_counts jw_ml_X7_187 jw_im_X7_counts jw_se_X7_counts ha0 rfl rfl dX7_walks_23 (w_X7_counts (d - 1) _ a0 x1 x2 (by omega) hW  ha0 (by omega) (by omega) (by omega) (by omega)) (by omega) (Nat.zero_le _) (Nat.zero_le _) (Nat.le_of_ble_eq_true rfl) (fun r23 V23 h23 => ?_)
      obtain ⟨h23, hX23_0⟩ := h23
      obtain ⟨hW, hx23, hr23⟩ := h23
      have he := he.trans (hx23.sub (jsub_of rfl))
      have hkp := hkp.trans hX23_0
      have ha0 := ha0.mono hx23.1
      cases hr23
      refine J_aload_n dX7_walks_26 rfl ?_
      obtain ⟨fs27, hO27, hK27⟩ := WT_obj hW id ha0
      obtain ⟨w27, hF27, b27, rfl, hb27⟩ := hK27.2 12 (.inr (some (.inl 23))) rfl
      refine J_get jf_X7_41 dX7_walks_27 hO27 hF27 ?_
      refine Jz_bipush 21 dX7_walks_30 (by decide) (fun y30 he30 => ?_)
      refine J_iload_n dX7_walks_32 rfl ?_
      refine Jz_imul he30 jEq.rf dX7_walks_33 (by omega) (by omega) (fun y33 he33 => ?_)
      refine J_iload_n dX7_walks_34 rfl ?_
      refine Jz_iadd he33 jEq.rf dX7_walks_35 (by omega) (by omega) (fun y35 he35 => ?_)
      obtain ⟨n36, f36, hA36, hN36, hM36, hv36⟩ := WT_arrI (r := (-2147483648, 2147483647)) hW id rfl hb27
      obtain rfl := hM36 84 rfl
      clear hN36 hM36
      refine Jz_ialdw he35 dX7_walks_36 hA36 rfl (by omega) (by omega) (fun y36 => ?_)
      exact J_ret (r := some (.int _)) dX7_walks_37 ⟨rfl, _, rfl, rfl⟩ (⟨⟨hW, he, ⟨_, rfl, (j_rng _).1, (j_rng _).2⟩⟩, hkp⟩)
    · have q14_1 := hI11_1.of (by omega)
      try simp only [he8.eq, he9.eq] at q14_1
      refine Jz_bipush (-2) dX7_walks_17 (by decide) (fun y17 he17 => ?_)
      exact J_ret (r := some (.int _)) dX7_walks_19 ⟨rfl, _, rfl, rfl⟩ (⟨⟨hW, he, ⟨_, rfl, (j_rng _).1, (j_rng _).2⟩⟩, hkp⟩)
set_option maxRecDepth 100000 in
set_option maxHeartbeats 8000000 in
theorem w_X7_squares {tS : jTS} (d : Nat) (V0 : jH) (a0 : Nat) (x1 : Int32) (x2 : Int32) (hd : 3 ≤ d) (hW : WT V0) (ha0 : jis V0 (.inr 5) a0) : jTot tS mX7_squares d [.ref a0, .int x1, .int x2] V0 0 0 (fun r V => (jPost [.inr 5, .inl 40, .inl 23, .inl 17, .inl 18, .inl 19, .inl 20, .inl 41, .inl 26, .inl 46, .inl 24, .inl 25] V0 rL) r V ∧ jkc 5 [0, 23, 24, 26, 27, 28] V0 V) := by
  refine jTot.of_J [some (.ref a0), some (.int x1), some (.int x2)] moX7_squares (Nat.le_of_ble_eq_true rfl) rfl ?_
  have hrx1 := j_rng x1
  have hrx2 := j_rng x2
  have he : jeff [.inr 5, .inl 40, .inl 23, .inl 17, .inl 18, .inl 19, .inl 20, .inl 41, .inl 26, .inl 46, .inl 24, .inl 25] V0 V0 := jeff.refl _ _
  have hkp : jkc 5 [0, 23, 24, 26, 27, 28] V0 V0 := jkc.rf
  refine J_iload_n dX7_squares_0 rfl ?_
  refine J_callS1 moX7_isGround jw_ml_X7_184 jw_st_X7_isGround dX7_squares_1 (w_X7_isGround (d - 1) _ x1 (by omega)   ) (by omega) (Nat.zero_le _) (Nat.zero_le _) (Nat.le_of_ble_eq_true rfl) (fun r1 V1 h1 => ?_)
  obtain ⟨⟨y1, rfl, hl1, hh1, hI1_0⟩, hE1⟩ := h1
  have hE1 := hE1.symm
  subst hE1
  refine Jz_if_eq (tgt := 17) jEq.rf dX7_squares_4 (by decide) (fun c4 => ?_) (fun c4 => ?_)
  · refine J_ldc2 jw_k_X7_191 dX7_squares_17 ?_
    exact J_ret (r := some (.long _)) dX7_squares_20 ⟨rfl, rfl⟩ (⟨⟨hW, he, ⟨_, rfl⟩⟩, hkp⟩)
  · have q4_0 := hI1_0.of (by omega)
    refine J_iload_n dX7_squares_7 rfl ?_
    refine Jz_iconst 0 dX7_squares_8 (by decide) (fun y8 he8 => ?_)
    refine Jz_bipush 20 dX7_squares_9 (by decide) (fun y9 he9 => ?_)
    refine J_callS3 moX7_in jw_ml_X7_105 jw_st_X7_in dX7_squares_11 (w_X7_in (d - 1) _ x2 y8 y9 (by omega)   ) (by omega) (Nat.zero_le _) (Nat.zero_le _) (Nat.le_of_ble_eq_true rfl) (fun r11 V11 h11 => ?_)
    obtain ⟨⟨y11, rfl, hl11, hh11, hI11_0, hI11_1⟩, hE11⟩ := h11
    have hE11 := hE11.symm
    subst hE11
    refine Jz_if_ne (tgt := 21) jEq.rf dX7_squares_14 (by decide) (fun c14 => ?_) (fun c14 => ?_)
    · have q14_0 := hI11_0.of (by omega)
      try simp only [he8.eq, he9.eq] at q14_0
      refine J_aload_n dX7_squares_21 rfl ?_
      refine J_iload_n dX7_squares_22 rfl ?_
      refine J_iload_n dX7_squares_23 rfl ?_
      refine Jw_callV2 (q9 := (RX7, TX7, 34)) moX7_counts jw_ml_X7_187 jw_im_X7_counts jw_se_X7_counts ha0 rfl rfl dX7_squares_24 (w_X7_counts (d - 1) _ a0 x1 x2 (by omega) hW  ha0 (by omega) (by omega) (by omega) (by omega)) (by omega) (Nat.zero_le _) (Nat.zero_le _) (Nat.le_of_ble_eq_true rfl) (fun r24 V24 h24 => ?_)
      obtain ⟨h24, hX24_0⟩ := h24
      obtain ⟨hW, hx24, hr24⟩ := h24
      have he := he.trans (hx24.sub (jsub_of rfl))
      have hkp := hkp.trans hX24_0
      have ha0 := ha0.mono hx24.1
      cases hr24
      refine J_aload_n dX7_squares_27 rfl ?_
      obtain ⟨fs28, hO28, hK28⟩ := WT_obj hW id ha0
      obtain ⟨w28, hF28, b28, rfl, hb28⟩ := hK28.2 12 (.inr (some (.inl 23))) rfl
      refine J_get jf_X7_41 dX7_squares_28 hO28 hF28 ?_
      refine Jz_bipush 21 dX7_squares_31 (by decide) (fun y31 he31 => ?_)
      refine J_iload_n dX7_squares_33 rfl ?_
      refine Jz_imul he31 jEq.rf dX7_squares_34 (by omega) (by omega) (fun y34 he34 => ?_)
      refine J_iload_n dX7_squares_35 rfl ?_
      refine Jz_iadd he34 jEq.rf dX7_squares_36 (by omega) (by omega) (fun y36 he36 => ?_)
      obtain ⟨n37, f37, hA37, hN37, hM37, hv37⟩ := WT_arrI (r := (-2147483648, 2147483647)) hW id rfl hb28
      obtain rfl := hM37 84 rfl
      clear hN37 hM37
      refine Jz_ialdw he36 dX7_squares_37 hA37 rfl (by omega) (by omega) (fun y37 => ?_)
      refine Jz_bipush (-5) dX7_squares_38 (by decide) (fun y38 he38 => ?_)
      refine Jz_icmp_ne (tgt := 49) jEq.rf he38 dX7_squares_40 (by decide) (fun c40 => ?_) (fun c40 => ?_)
      · refine J_aload_n dX7_squares_49 rfl ?_
        obtain ⟨w50, hF50, b50, rfl, hb50⟩ := hK28.2 13 (.inr (some (.inl 46))) rfl
        refine J_get jf_X7_44 dX7_squares_50 hO28 hF50 ?_
        refine Jz_bipush 21 dX7_squares_53 (by decide) (fun y53 he53 => ?_)
        refine J_iload_n dX7_squares_55 rfl ?_
        refine Jz_imul he53 jEq.rf dX7_squares_56 (by omega) (by omega) (fun y56 he56 => ?_)
        refine J_iload_n dX7_squares_57 rfl ?_
        refine Jz_iadd he56 jEq.rf dX7_squares_58 (by omega) (by omega) (fun y58 he58 => ?_)
        obtain ⟨n59, f59, hA59, hN59, hM59⟩ := WT_arrL hW id rfl hb50
        obtain rfl := hM59 84 rfl
        clear hN59 hM59
        refine Jz_lald he58 dX7_squares_59 hA59 rfl (by omega) (by omega) (fun y59 => ?_)
        exact J_ret (r := some (.long _)) dX7_squares_60 ⟨rfl, rfl⟩ (⟨⟨hW, he, ⟨_, rfl⟩⟩, hkp⟩)
      · refine J_ldc2 jw_k_X7_193 dX7_squares_43 ?_
        refine J_goto (tgt := 60) dX7_squares_46 (by decide) ?_
        exact J_ret (r := some (.long _)) dX7_squares_60 ⟨rfl, rfl⟩ (⟨⟨hW, he, ⟨_, rfl⟩⟩, hkp⟩)
    · have q14_1 := hI11_1.of (by omega)
      try simp only [he8.eq, he9.eq] at q14_1
      refine J_ldc2 jw_k_X7_191 dX7_squares_17 ?_
      exact J_ret (r := some (.long _)) dX7_squares_20 ⟨rfl, rfl⟩ (⟨⟨hW, he, ⟨_, rfl⟩⟩, hkp⟩)
set_option maxRecDepth 100000 in
set_option maxHeartbeats 8000000 in
theorem w_X7_rings {tS : jTS} (d : Nat) (V0 : jH) (a0 : Nat) (x1 : Int32) (x2 : Int32) (hd : 3 ≤ d) (hW : WT V0) (ha0 : jis V0 (.inr 5) a0) : jTot tS mX7_rings d [.ref a0, .int x1, .int x2] V0 0 0 (fun r V => (jPost [.inr 5, .inl 40, .inl 23, .inl 17, .inl 18, .inl 19, .inl 20, .inl 41, .inl 26, .inl 46, .inl 24, .inl 25] V0 (fun r _ => ∃ y : Int32, r = some (.int y) ∧ ((-2147483648) ≤ y.toInt) ∧ (y.toInt ≤ 2147483647))) r V ∧ jkc 5 [0, 23, 24, 26, 27, 28] V0 V) := by
  refine jTot.of_J [some (.ref a0), some (.int x1), some (.int x2)] moX7_rings (Nat.le_of_ble_eq_true rfl) rfl ?_
  have hrx1 := j_rng x1
  have hrx2 := j_rng x2
  have he : jeff [.inr 5, .inl 40, .inl 23, .inl 17, .inl 18, .inl 19, .inl 20, .inl 41, .inl 26, .inl 46, .inl 24, .inl 25] V0 V0 := jeff.refl _ _
  have hkp : jkc 5 [0, 23, 24, 26, 27, 28] V0 V0 := jkc.rf
  refine J_iload_n dX7_rings_0 rfl ?_
  refine J_callS1 moX7_isGround jw_ml_X7_184 jw_st_X7_isGround dX7_rings_1 (w_X7_isGround (d - 1) _ x1 (by omega)   ) (by omega) (Nat.zero_le _) (Nat.zero_le _) (Nat.le_of_ble_eq_true rfl) (fun r1 V1 h1 => ?_)
  obtain ⟨⟨y1, rfl, hl1, hh1, hI1_0⟩, hE1⟩ := h1
  have hE1 := hE1.symm
  subst hE1
  refine Jz_if_eq (tgt := 17) jEq.rf dX7_rings_4 (by decide) (fun c4 => ?_) (fun c4 => ?_)
  · refine Jz_bipush (-2) dX7_rings_17 (by decide) (fun y17 he17 => ?_)
    exact J_ret (r := some (.int _)) dX7_rings_19 ⟨rfl, _, rfl, rfl⟩ (⟨⟨hW, he, ⟨_, rfl, (j_rng _).1, (j_rng _).2⟩⟩, hkp⟩)
  · have q4_0 := hI1_0.of (by omega)
    refine J_iload_n dX7_rings_7 rfl ?_
    refine Jz_iconst 3 dX7_rings_8 (by decide) (fun y8 he8 => ?_)
    refine Jz_bipush 20 dX7_rings_9 (by decide) (fun y9 he9 => ?_)
    refine J_callS3 moX7_in jw_ml_X7_105 jw_st_X7_in dX7_rings_11 (w_X7_in (d - 1) _ x2 y8 y9 (by omega)   ) (by omega) (Nat.zero_le _) (Nat.zero_le _) (Nat.le_of_ble_eq_true rfl) (fun r11 V11 h11 => ?_)
    obtain ⟨⟨y11, rfl, hl11, hh11, hI11_0, hI11_1⟩, hE11⟩ := h11
    have hE11 := hE11.symm
    subst hE11
    refine Jz_if_ne (tgt := 20) jEq.rf dX7_rings_14 (by decide) (fun c14 => ?_) (fun c14 => ?_)
    · have q14_0 := hI11_0.of (by omega)
      try simp only [he8.eq, he9.eq] at q14_0
      refine J_aload_n dX7_rings_20 rfl ?_
      refine J_iload_n dX7_rings_21 rfl ?_
      refine J_iload_n dX7_rings_22 rfl ?_
      refine Jz_iconst 1 dX7_rings_23 (by decide) (fun y23 he23 => ?_)
      refine Jz_isub jEq.rf he23 dX7_rings_24 (by omega) (by omega) (fun y24 he24 => ?_)
      refine Jw_callV2 (q9 := (RX7, TX7, 34)) moX7_counts jw_ml_X7_187 jw_im_X7_counts jw_se_X7_counts ha0 rfl rfl dX7_rings_25 (w_X7_counts (d - 1) _ a0 x1 y24 (by omega) hW  ha0 (by omega) (by omega) (by (try simp only [he24.eq, true_and, and_true]) <;> omega) (by (try simp only [he24.eq, true_and, and_true]) <;> omega)) (by omega) (Nat.zero_le _) (Nat.zero_le _) (Nat.le_of_ble_eq_true rfl) (fun r25 V25 h25 => ?_)
      obtain ⟨h25, hX25_0⟩ := h25
      obtain ⟨hW, hx25, hr25⟩ := h25
      have he := he.trans (hx25.sub (jsub_of rfl))
      have hkp := hkp.trans hX25_0
      have ha0 := ha0.mono hx25.1
      cases hr25
      refine J_aload_n dX7_rings_28 rfl ?_
      obtain ⟨fs29, hO29, hK29⟩ := WT_obj hW id ha0
      obtain ⟨w29, hF29, b29, rfl, hb29⟩ := hK29.2 12 (.inr (some (.inl 23))) rfl
      refine J_get jf_X7_41 dX7_rings_29 hO29 hF29 ?_
      refine Jz_bipush 21 dX7_rings_32 (by decide) (fun y32 he32 => ?_)
      refine J_iload_n dX7_rings_34 rfl ?_
      refine Jz_imul he32 jEq.rf dX7_rings_35 (by omega) (by omega) (fun y35 he35 => ?_)
      refine J_iload_n dX7_rings_36 rfl ?_
      refine Jz_iadd he35 jEq.rf dX7_rings_37 (by omega) (by omega) (fun y37 he37 => ?_)
      refine Jz_iconst 1 dX7_rings_38 (by decide) (fun y38 he38 => ?_)
      refine Jz_isub he37 he38 dX7_rings_39 (by omega) (by omega) (fun y39 he39 => ?_)
      obtain ⟨n40, f40, hA40, hN40, hM40, hv40⟩ := WT_arrI (r := (-2147483648, 2147483647)) hW id rfl hb29
      obtain rfl := hM40 84 rfl
      clear hN40 hM40
      refine Jz_ialdw he39 dX7_rings_40 hA40 rfl (by omega) (by omega) (fun y40 => ?_)
      refine Jz_bipush (-5) dX7_rings_41 (by decide) (fun y41 he41 => ?_)
      refine Jz_icmp_ne (tgt := 51) jEq.rf he41 dX7_rings_43 (by decide) (fun c43 => ?_) (fun c43 => ?_)
      · refine J_aload_n dX7_rings_51 rfl ?_
        obtain ⟨w52, hF52, b52, rfl, hb52⟩ := hK29.2 14 (.inr (some (.inl 24))) rfl
        refine J_get jf_X7_48 dX7_rings_52 hO29 hF52 ?_
        refine Jz_bipush 21 dX7_rings_55 (by decide) (fun y55 he55 => ?_)
        refine J_iload_n dX7_rings_57 rfl ?_
        refine Jz_imul he55 jEq.rf dX7_rings_58 (by omega) (by omega) (fun y58 he58 => ?_)
        refine J_iload_n dX7_rings_59 rfl ?_
        refine Jz_iadd he58 jEq.rf dX7_rings_60 (by omega) (by omega) (fun y60 he60 => ?_)
        refine Jz_iconst 1 dX7_rings_61 (by decide) (fun y61 he61 => ?_)
        refine Jz_isub he60 he61 dX7_rings_62 (by omega) (by omega) (fun y62 he62 => ?_)
        obtain ⟨n63, f63, hA63, hN63, hM63, hv63⟩ := WT_arrI (r := (-2147483648, 2147483647)) hW id rfl hb52
        obtain rfl := hM63 84 rfl
        clear hN63 hM63
        refine Jz_ialdw he62 dX7_rings_63 hA63 rfl (by omega) (by omega) (fun y63 => ?_)
        exact J_ret (r := some (.int _)) dX7_rings_64 ⟨rfl, _, rfl, rfl⟩ (⟨⟨hW, he, ⟨_, rfl, (j_rng _).1, (j_rng _).2⟩⟩, hkp⟩)
      · refine Jz_bipush (-5) dX7_rings_46 (by decide) (fun y46 he46 => ?_)
        refine J_goto (tgt := 64) dX7_rings_48 (by decide) ?_
        exact J_ret (r := some (.int _)) dX7_rings_64 ⟨rfl, _, rfl, rfl⟩ (⟨⟨hW, he, ⟨_, rfl, (j_rng _).1, (j_rng _).2⟩⟩, hkp⟩)
    · have q14_1 := hI11_1.of (by omega)
      try simp only [he8.eq, he9.eq] at q14_1
      refine Jz_bipush (-2) dX7_rings_17 (by decide) (fun y17 he17 => ?_)
      exact J_ret (r := some (.int _)) dX7_rings_19 ⟨rfl, _, rfl, rfl⟩ (⟨⟨hW, he, ⟨_, rfl, (j_rng _).1, (j_rng _).2⟩⟩, hkp⟩)
set_option maxRecDepth 100000 in
set_option maxHeartbeats 8000000 in
theorem w_X7_bridges {tS : jTS} (d : Nat) (V0 : jH) (a0 : Nat) (x1 : Int32) (x2 : Int32) (hd : 3 ≤ d) (hW : WT V0) (ha0 : jis V0 (.inr 5) a0) : jTot tS mX7_bridges d [.ref a0, .int x1, .int x2] V0 0 0 (fun r V => (jPost [.inr 5, .inl 40, .inl 23, .inl 17, .inl 18, .inl 19, .inl 20, .inl 41, .inl 26, .inl 46, .inl 24, .inl 25] V0 (fun r _ => ∃ y : Int32, r = some (.int y) ∧ ((-2147483648) ≤ y.toInt) ∧ (y.toInt ≤ 2147483647))) r V ∧ jkc 5 [0, 23, 24, 26, 27, 28] V0 V) := by
  refine jTot.of_J [some (.ref a0), some (.int x1), some (.int x2)] moX7_bridges (Nat.le_of_ble_eq_true rfl) rfl ?_
  have hrx1 := j_rng x1
  have hrx2 := j_rng x2
  have he : jeff [.inr 5, .inl 40, .inl 23, .inl 17, .inl 18, .inl 19, .inl 20, .inl 41, .inl 26, .inl 46, .inl 24, .inl 25] V0 V0 := jeff.refl _ _
  have hkp : jkc 5 [0, 23, 24, 26, 27, 28] V0 V0 := jkc.rf
  refine J_iload_n dX7_bridges_0 rfl ?_
  refine J_callS1 moX7_isGround jw_ml_X7_184 jw_st_X7_isGround dX7_bridges_1 (w_X7_isGround (d - 1) _ x1 (by omega)   ) (by omega) (Nat.zero_le _) (Nat.zero_le _) (Nat.le_of_ble_eq_true rfl) (fun r1 V1 h1 => ?_)
  obtain ⟨⟨y1, rfl, hl1, hh1, hI1_0⟩, hE1⟩ := h1
  have hE1 := hE1.symm
  subst hE1
  refine Jz_if_eq (tgt := 17) jEq.rf dX7_bridges_4 (by decide) (fun c4 => ?_) (fun c4 => ?_)
  · refine Jz_bipush (-2) dX7_bridges_17 (by decide) (fun y17 he17 => ?_)
    exact J_ret (r := some (.int _)) dX7_bridges_19 ⟨rfl, _, rfl, rfl⟩ (⟨⟨hW, he, ⟨_, rfl, (j_rng _).1, (j_rng _).2⟩⟩, hkp⟩)
  · have q4_0 := hI1_0.of (by omega)
    refine J_iload_n dX7_bridges_7 rfl ?_
    refine Jz_iconst 1 dX7_bridges_8 (by decide) (fun y8 he8 => ?_)
    refine Jz_bipush 20 dX7_bridges_9 (by decide) (fun y9 he9 => ?_)
    refine J_callS3 moX7_in jw_ml_X7_105 jw_st_X7_in dX7_bridges_11 (w_X7_in (d - 1) _ x2 y8 y9 (by omega)   ) (by omega) (Nat.zero_le _) (Nat.zero_le _) (Nat.le_of_ble_eq_true rfl) (fun r11 V11 h11 => ?_)
    obtain ⟨⟨y11, rfl, hl11, hh11, hI11_0, hI11_1⟩, hE11⟩ := h11
    have hE11 := hE11.symm
    subst hE11
    refine Jz_if_ne (tgt := 20) jEq.rf dX7_bridges_14 (by decide) (fun c14 => ?_) (fun c14 => ?_)
    · have q14_0 := hI11_0.of (by omega)
      try simp only [he8.eq, he9.eq] at q14_0
      refine J_aload_n dX7_bridges_20 rfl ?_
      refine J_iload_n dX7_bridges_21 rfl ?_
      refine J_iload_n dX7_bridges_22 rfl ?_
      refine Jw_callV2 (q9 := (RX7, TX7, 34)) moX7_counts jw_ml_X7_187 jw_im_X7_counts jw_se_X7_counts ha0 rfl rfl dX7_bridges_23 (w_X7_counts (d - 1) _ a0 x1 x2 (by omega) hW  ha0 (by omega) (by omega) (by omega) (by omega)) (by omega) (Nat.zero_le _) (Nat.zero_le _) (Nat.le_of_ble_eq_true rfl) (fun r23 V23 h23 => ?_)
      obtain ⟨h23, hX23_0⟩ := h23
      obtain ⟨hW, hx23, hr23⟩ := h23
      have he := he.trans (hx23.sub (jsub_of rfl))
      have hkp := hkp.trans hX23_0
      have ha0 := ha0.mono hx23.1
      cases hr23
      refine J_aload_n dX7_bridges_26 rfl ?_
      obtain ⟨fs27, hO27, hK27⟩ := WT_obj hW id ha0
      obtain ⟨w27, hF27, b27, rfl, hb27⟩ := hK27.2 12 (.inr (some (.inl 23))) rfl
      refine J_get jf_X7_41 dX7_bridges_27 hO27 hF27 ?_
      refine Jz_bipush 21 dX7_bridges_30 (by decide) (fun y30 he30 => ?_)
      refine J_iload_n dX7_bridges_32 rfl ?_
      refine Jz_imul he30 jEq.rf dX7_bridges_33 (by omega) (by omega) (fun y33 he33 => ?_)
      refine J_iload_n dX7_bridges_34 rfl ?_
      refine Jz_iadd he33 jEq.rf dX7_bridges_35 (by omega) (by omega) (fun y35 he35 => ?_)
      obtain ⟨n36, f36, hA36, hN36, hM36, hv36⟩ := WT_arrI (r := (-2147483648, 2147483647)) hW id rfl hb27
      obtain rfl := hM36 84 rfl
      clear hN36 hM36
      refine Jz_ialdw he35 dX7_bridges_36 hA36 rfl (by omega) (by omega) (fun y36 => ?_)
      refine Jz_bipush (-5) dX7_bridges_37 (by decide) (fun y37 he37 => ?_)
      refine Jz_icmp_ne (tgt := 47) jEq.rf he37 dX7_bridges_39 (by decide) (fun c39 => ?_) (fun c39 => ?_)
      · refine J_aload_n dX7_bridges_47 rfl ?_
        obtain ⟨w48, hF48, b48, rfl, hb48⟩ := hK27.2 15 (.inr (some (.inl 25))) rfl
        refine J_get jf_X7_51 dX7_bridges_48 hO27 hF48 ?_
        refine Jz_bipush 21 dX7_bridges_51 (by decide) (fun y51 he51 => ?_)
        refine J_iload_n dX7_bridges_53 rfl ?_
        refine Jz_imul he51 jEq.rf dX7_bridges_54 (by omega) (by omega) (fun y54 he54 => ?_)
        refine J_iload_n dX7_bridges_55 rfl ?_
        refine Jz_iadd he54 jEq.rf dX7_bridges_56 (by omega) (by omega) (fun y56 he56 => ?_)
        obtain ⟨n57, f57, hA57, hN57, hM57, hv57⟩ := WT_arrI (r := (-2147483648, 2147483647)) hW id rfl hb48
        obtain rfl := hM57 84 rfl
        clear hN57 hM57
        refine Jz_ialdw he56 dX7_bridges_57 hA57 rfl (by omega) (by omega) (fun y57 => ?_)
        exact J_ret (r := some (.int _)) dX7_bridges_58 ⟨rfl, _, rfl, rfl⟩ (⟨⟨hW, he, ⟨_, rfl, (j_rng _).1, (j_rng _).2⟩⟩, hkp⟩)
      · refine Jz_bipush (-5) dX7_bridges_42 (by decide) (fun y42 he42 => ?_)
        refine J_goto (tgt := 58) dX7_bridges_44 (by decide) ?_
        exact J_ret (r := some (.int _)) dX7_bridges_58 ⟨rfl, _, rfl, rfl⟩ (⟨⟨hW, he, ⟨_, rfl, (j_rng _).1, (j_rng _).2⟩⟩, hkp⟩)
    · have q14_1 := hI11_1.of (by omega)
      try simp only [he8.eq, he9.eq] at q14_1
      refine Jz_bipush (-2) dX7_bridges_17 (by decide) (fun y17 he17 => ?_)
      exact J_ret (r := some (.int _)) dX7_bridges_19 ⟨rfl, _, rfl, rfl⟩ (⟨⟨hW, he, ⟨_, rfl, (j_rng _).1, (j_rng _).2⟩⟩, hkp⟩)
set_option maxRecDepth 100000 in
set_option maxHeartbeats 8000000 in
theorem w_X7_power {tS : jTS} (d : Nat) (V0 : jH) (x0 : Int32) (x1 : Int32) (hd : 0 ≤ d)  (hp0 : 1 ≤ x0.toInt) (hp1 : x0.toInt ≤ 6) (hp2 : 0 ≤ x1.toInt) (hp3 : x1.toInt ≤ 7) : jTot tS mX7_power d [.int x0, .int x1] V0 0 0 (fun r V => (fun r _ => ∃ y : Int32, r = some (.int y) ∧ ((-2147483648) ≤ y.toInt) ∧ (y.toInt ≤ 2147483647) ∧ (y.toInt = jpw x0.toInt x1.toInt.toNat)) r V ∧ V = V0) := by
  refine jTot.of_J [some (.int x0), some (.int x1), none, none] moX7_power (Nat.le_of_ble_eq_true rfl) rfl ?_
  have hrx0 := j_rng x0
  have hrx1 := j_rng x1
  refine Jz_iconst 1 dX7_power_0 (by decide) (fun y0 he0 => ?_)
  refine J_istore_n dX7_power_1 rfl (by decide) ?_
  refine Jz_iconst 0 dX7_power_2 (by decide) (fun y2 he2 => ?_)
  refine J_istore_n dX7_power_3 rfl (by decide) ?_
  have L4 : ∀ (N : Nat) (i2n4 : Int32) (i3n4 : Int32), (0 ≤ i3n4.toInt ∧ i3n4.toInt ≤ x1.toInt) → (i2n4.toInt = jpw x0.toInt i3n4.toInt.toNat) → (300 - i3n4.toInt).toNat < N → J tS mX7_power d 4 [some (.int x0), some (.int x1), some (.int i2n4), some (.int i3n4)] [] V0 0 0 (fun r V => (fun r _ => ∃ y : Int32, r = some (.int y) ∧ ((-2147483648) ≤ y.toInt) ∧ (y.toInt ≤ 2147483647) ∧ (y.toInt = jpw x0.toInt x1.toInt.toNat)) r V ∧ V = V0) := by
    intro N
    induction N with
    | zero => intro i2n4 i3n4  hi3 hpw hm; exact absurd hm (Nat.not_lt_zero _)
    | succ N ih =>
      intro i2n4 i3n4  hi3 hpw hm
      have ih4 := ih
      have hri3 := j_rng i3n4
      refine J_iload_n dX7_power_4 rfl ?_
      refine J_iload_n dX7_power_5 rfl ?_
      refine Jz_icmp_ge (tgt := 19) jEq.rf jEq.rf dX7_power_6 (by decide) (fun c6 => ?_) (fun c6 => ?_)
      · refine J_iload_n dX7_power_19 rfl ?_
        exact J_ret (r := some (.int _)) dX7_power_20 ⟨rfl, _, rfl, rfl⟩ (⟨⟨_, rfl, (j_rng _).1, (j_rng _).2, (by rw [hpw, show i3n4.toInt.toNat = x1.toInt.toNat by omega])⟩, rfl⟩)
      · refine J_iload_n dX7_power_9 rfl ?_
        refine J_iload_n dX7_power_10 rfl ?_
        have hq1 : i2n4.toInt * x0.toInt = jpw x0.toInt (i3n4.toInt.toNat + 1) := by rw [hpw, Int.mul_comm]; rfl
        have hq2 := jpw_le6 (d := x0.toInt) (by omega) (by omega) (n := i3n4.toInt.toNat + 1) (by omega)
        have hq3 := jpw_pos (d := x0.toInt) (by omega) (i3n4.toInt.toNat + 1)
        refine Jz_imul jEq.rf jEq.rf dX7_power_11 (by omega) (by omega) (fun y11 he11 => ?_)
        refine J_istore_n dX7_power_12 rfl (by decide) ?_
        refine Jz_iinc 1 dX7_power_13 rfl rfl (by decide) jEq.rf (by decide) (by omega) (by omega) (fun y13 he13 => ?_)
        refine J_goto (tgt := 4) dX7_power_16 (by decide) ?_
        refine J.mask [true, true, true, true] ?_
        exact ih4  y11 y13  (by (try simp only [he11.eq, he13.eq, true_and, and_true]) <;> omega) (by rw [he11.eq, hq1, he13.eq, show (i3n4.toInt + 1).toNat = i3n4.toInt.toNat + 1 by omega]) (by (try simp only [he11.eq, he13.eq, true_and, and_true]) <;> omega)
  refine J.mask [true, true, true, true] ?_
  exact L4 _  y0 y2    (by (try simp only [he0.eq, he2.eq, true_and, and_true]) <;> omega) (by rw [he0.eq, he2.eq]; rfl) (Nat.lt_succ_self _)
set_option maxRecDepth 100000 in
set_option maxHeartbeats 8000000 in
theorem w_X7_rowOf {tS : jTS} (d : Nat) (V0 : jH) (a0 : Nat) (x1 : Int32) (x2 : Int32) (x3 : Int32) (v22 : Int32) (ra4 : Nat) (hd : 1 ≤ d) (hW : WT V0) (ha0 : jis V0 (.inr 5) a0) (hf_v22 : jfI V0 a0 5 22 v22) (hr_ra4 : jfR V0 a0 5 4 ra4) (hp0 : 0 ≤ x2.toInt) (hp1 : x2.toInt ≤ 7) (hp2 : 0 ≤ x3.toInt) : jTot tS mX7_rowOf d [.ref a0, .int x1, .int x2, .int x3] V0 0 0 (fun r V => (jPost [.inr 5, .inl 17] V0 rV) r V ∧ (∃ F : Nat → Int32, V ra4 = some (.inl (17, 120, .inl F)) ∧ ∀ k : Nat, (k : Int) < x2.toInt → 0 ≤ (F k).toInt ∧ (F k).toInt < jdir x1.toInt) ∧ jkc 5 [0, 23, 24, 26, 27, 28] V0 V ∧ (∃ v5 : Int32, jfI V a0 5 5 v5 ∧ (v5.toInt = x2.toInt)) ∧ (∃ w22 : Int32, jfI V a0 5 22 w22 ∧ (w22.toInt = v22.toInt))) := by
  refine jTot.of_J [some (.ref a0), some (.int x1), some (.int x2), some (.int x3), none, none] moX7_rowOf (Nat.le_of_ble_eq_true rfl) rfl ?_
  have hrx1 := j_rng x1
  have hrx2 := j_rng x2
  have hrx3 := j_rng x3
  have he : jeff [.inr 5, .inl 17] V0 V0 := jeff.refl _ _
  have hkp : jkc 5 [0, 23, 24, 26, 27, 28] V0 V0 := jkc.rf
  obtain ⟨fs_a0, hO_a0, hK_a0⟩ := WT_obj hW id ha0
  have hF_v22 := hf_v22.get hO_a0
  have hrv22 : (-2147483648) ≤ v22.toInt ∧ v22.toInt ≤ 2147483647 := jok_rngI hK_a0 rfl hF_v22
  have hF_ra4 := hr_ra4.get hO_a0
  obtain ⟨w_ra4, hFq_ra4, b_ra4, hbq_ra4, hb_ra4⟩ := hK_a0.2 4 (.inr (some (.inl 17))) rfl
  cases hF_ra4.symm.trans (hFq_ra4.trans (congrArg some hbq_ra4))
  refine J_aload_n dX7_rowOf_0 rfl ?_
  refine J_iload_n dX7_rowOf_1 rfl ?_
  refine Jz_putI hO_a0 hW id rfl jf_X7_109 jt_X7_5 jEq.rf dX7_rowOf_2 (by omega) (by omega) (fun _ _ => ⟨rfl, rfl⟩) (fun V2 fs2 hW hx2 hO2 hS2 hT2 hB2 => ?_)
  have hK2 : jokO _ (jFs 5) fs2 := hW _ _ id hO2
  have hF2_22 := (hT2 22 (by decide)).trans hF_v22
  have hF2_4 := (hT2 4 (by decide)).trans hF_ra4
  have he := he.trans (hx2.sub (jsub_of rfl))
  have hkp := hkp.trans (jkc.put hO_a0 hO2 hT2 hB2 (by decide))
  have ha0 := ha0.mono hx2.1
  have hb_ra4 := hb_ra4.mono hx2.1
  refine J_iload_n dX7_rowOf_5 rfl ?_
  refine J_istore dX7_rowOf_6 rfl (by decide) ?_
  refine J_iload_n dX7_rowOf_8 rfl ?_
  refine Jz_iconst 1 dX7_rowOf_9 (by decide) (fun y9 he9 => ?_)
  refine Jz_isub jEq.rf he9 dX7_rowOf_10 (by omega) (by omega) (fun y10 he10 => ?_)
  refine J_istore dX7_rowOf_11 rfl (by decide) ?_
  obtain ⟨n13tra4, f13tra4, hA13tra4, hN13tra4, hM13tra4, hv13tra4⟩ := WT_arrI (r := (-2147483648, 2147483647)) hW id rfl hb_ra4
  obtain rfl := hM13tra4 120 rfl
  clear hN13tra4 hM13tra4
  have L13 : ∀ (N : Nat) (V : jH) (i4n13 : Int32) (i5n13 : Int32) (F17n13 : Nat → Int32), WT V → jeff [.inr 5, .inl 17] V0 V → (jis V (.inr 5) a0) → (jis V (.inl 17) ra4) → (jkc 5 [0, 23, 24, 26, 27, 28] V0 V) → (V a0 = some (.inr (5, fs2))) → (jokO V (jFs 5) fs2) → (V ra4 = some (.inl (17, 120, .inl F17n13))) → (-1 ≤ i5n13.toInt ∧ i5n13.toInt < x2.toInt) → (0 ≤ i4n13.toInt) → (∀ k : Nat, i5n13.toInt < (k : Int) → (k : Int) < x2.toInt → 0 ≤ (F17n13 k).toInt ∧ (F17n13 k).toInt < jdir x1.toInt) → (i5n13.toInt + 5).toNat < N → J tS mX7_rowOf d 13 [some (.ref a0), some (.int x1), some (.int x2), some (.int x3), some (.int i4n13), some (.int i5n13)] [] V 0 0 (fun r V => (jPost [.inr 5, .inl 17] V0 rV) r V ∧ (∃ F : Nat → Int32, V ra4 = some (.inl (17, 120, .inl F)) ∧ ∀ k : Nat, (k : Int) < x2.toInt → 0 ≤ (F k).toInt ∧ (F k).toInt < jdir x1.toInt) ∧ jkc 5 [0, 23, 24, 26, 27, 28] V0 V ∧ (∃ v5 : Int32, jfI V a0 5 5 v5 ∧ (v5.toInt = x2.toInt)) ∧ (∃ w22 : Int32, jfI V a0 5 22 w22 ∧ (w22.toInt = v22.toInt))) := by
    intro N
    induction N with
    | zero => intro V i4n13 i5n13 F17n13 hW he ha0 hb_ra4 hkp hO2 hK2 hAF17n13 hi5 hl4 hc hm; exact absurd hm (Nat.not_lt_zero _)
    | succ N ih =>
      intro V i4n13 i5n13 F17n13 hW he ha0 hb_ra4 hkp hO2 hK2 hAF17n13 hi5 hl4 hc hm
      have ih13 := ih
      have hri5 := j_rng i5n13
      obtain ⟨hNF17n13, hvF17n13⟩ := WT_rngI (r := ((-2147483648), 2147483647)) hW id rfl hAF17n13
      clear hNF17n13
      refine J_iload dX7_rowOf_13 rfl ?_
      refine Jz_if_lt (tgt := 47) jEq.rf dX7_rowOf_15 (by decide) (fun c15 => ?_) (fun c15 => ?_)
      · exact J_ret (r := none) dX7_rowOf_47 ⟨rfl, rfl⟩ (⟨⟨hW, he, rfl⟩, ⟨F17n13, hAF17n13, fun k hk => hc k (by omega) hk⟩, hkp, ⟨_, ⟨_, hO2, hS2⟩, (by omega)⟩, ⟨_, ⟨_, hO2, hF2_22⟩, (by omega)⟩⟩)
      · refine J_aload_n dX7_rowOf_18 rfl ?_
        refine J_get jf_X7_19 dX7_rowOf_19 hO2 hF2_4 ?_
        refine J_iload dX7_rowOf_22 rfl ?_
        refine J_iload dX7_rowOf_24 rfl ?_
        refine J_iload_n dX7_rowOf_26 rfl ?_
        refine J_callS1 moX7_directions jw_ml_X7_133 jw_st_X7_directions dX7_rowOf_27 (w_X7_directions (d - 1) _ x1 (by omega)   ) (by omega) (Nat.zero_le _) (Nat.zero_le _) (Nat.le_of_ble_eq_true rfl) (fun r27 V27 h27 => ?_)
        obtain ⟨⟨y27, rfl, hl27, hh27, hP27_0⟩, hE27⟩ := h27
        have hE27 := hE27.symm
        subst hE27
        have hz27 : jEq y27.toInt (jdir (x1.toInt)) := hP27_0
        simp only [hP27_0] at hl27 hh27
        clear hP27_0
        refine Jz_irem jEq.rf hz27 dX7_rowOf_30 (by omega) (by omega) (fun y30 he30 hf30 => ?_)
        refine Jz_iast (r := ((-2147483648), 2147483647)) jEq.rf jEq.rf hW id dX7_rowOf_31 hAF17n13 rfl rfl (by omega) (by omega) (j_rng _).1 (j_rng _).2 (fun V31 G31 hW hx31 hA31 hp31 ho31 => ?_)
        obtain ⟨hN31, hv31⟩ := WT_rngI (r := ((-2147483648), 2147483647)) hW id rfl hA31
        clear hN31
        have he := he.trans (hx31.sub (jsub_of rfl))
        have hkp := hkp.trans (jkc.of hx31 (jnot_of rfl))
        have ha0 := ha0.mono hx31.1
        have hb_ra4 := hb_ra4.mono hx31.1
        have hO2 := hx31.2 _ _ hO2 (jnot_of rfl)
        have hK2 := hK2.mono hx31.1
        refine J_iload dX7_rowOf_32 rfl ?_
        refine J_iload_n dX7_rowOf_34 rfl ?_
        refine J_callS1 moX7_directions jw_ml_X7_133 jw_st_X7_directions dX7_rowOf_35 (w_X7_directions (d - 1) _ x1 (by omega)   ) (by omega) (Nat.zero_le _) (Nat.zero_le _) (Nat.le_of_ble_eq_true rfl) (fun r35 V35 h35 => ?_)
        obtain ⟨⟨y35, rfl, hl35, hh35, hP35_0⟩, hE35⟩ := h35
        have hE35 := hE35.symm
        subst hE35
        have hz35 : jEq y35.toInt (jdir (x1.toInt)) := hP35_0
        simp only [hP35_0] at hl35 hh35
        clear hP35_0
        refine Jz_idiv jEq.rf hz35 dX7_rowOf_38 (by omega) (by omega) (fun y38 he38 hf38 => ?_)
        refine J_istore dX7_rowOf_39 rfl (by decide) ?_
        refine Jz_iinc (-1) dX7_rowOf_41 rfl rfl (by decide) jEq.rf (by decide) (by omega) (by omega) (fun y41 he41 => ?_)
        refine J_goto (tgt := 13) dX7_rowOf_44 (by decide) ?_
        refine J.mask [true, true, true, true, true, true] ?_
        exact ih13 _ y38 y41 G31 hW he ha0 hb_ra4 hkp hO2 hK2 hA31 (by (try simp only [he41.eq, true_and, and_true]) <;> omega) (by (try simp only [he41.eq, true_and, and_true]) <;> omega) (fun k h1 h2 => by rw [he41.eq] at h1; exact (Nat.decEq k i5n13.toInt.toNat).byCases (fun hq => by rw [hq, hp31]; omega) (fun hq => by rw [ho31 k hq]; exact hc k (by omega) h2)) (by (try simp only [he41.eq, true_and, and_true]) <;> omega)
  refine J.mask [true, true, true, true, true, true] ?_
  exact L13 _ _ x3 y10 f13tra4 hW he ha0 hb_ra4 hkp hO2 hK2 hA13tra4 (by (try simp only [he10.eq, true_and, and_true]) <;> omega) (by (try simp only [he10.eq, true_and, and_true]) <;> omega) (fun k h1 h2 => by rw [he10.eq] at h1; omega) (Nat.lt_succ_self _)
set_option maxRecDepth 100000 in
set_option maxHeartbeats 8000000 in
theorem w_X7_forms {tS : jTS} (d : Nat) (V0 : jH) (a0 : Nat) (x1 : Int32) (x2 : Int32) (hd : 5 ≤ d) (hW : WT V0) (ha0 : jis V0 (.inr 5) a0) : jTot tS mX7_forms d [.ref a0, .int x1, .int x2] V0 0 0 (fun r V => (jPost [.inr 5, .inl 40, .inl 23, .inl 17, .inl 18, .inl 19, .inl 20, .inl 41, .inl 26, .inl 46, .inl 24, .inl 25, .inl 21, .inl 27] V0 (fun r _ => ∃ y : Int32, r = some (.int y) ∧ ((-2147483648) ≤ y.toInt) ∧ (y.toInt ≤ 2147483647))) r V ∧ jkc 5 [0, 23, 24, 26, 27, 28] V0 V) := by
  refine jTot.of_J [some (.ref a0), some (.int x1), some (.int x2), none, none, none] moX7_forms (Nat.le_of_ble_eq_true rfl) rfl ?_
  have hrx1 := j_rng x1
  have hrx2 := j_rng x2
  have he : jeff [.inr 5, .inl 40, .inl 23, .inl 17, .inl 18, .inl 19, .inl 20, .inl 41, .inl 26, .inl 46, .inl 24, .inl 25, .inl 21, .inl 27] V0 V0 := jeff.refl _ _
  have hkp : jkc 5 [0, 23, 24, 26, 27, 28] V0 V0 := jkc.rf
  refine J_iload_n dX7_forms_0 rfl ?_
  refine J_callS1 moX7_isGround jw_ml_X7_184 jw_st_X7_isGround dX7_forms_1 (w_X7_isGround (d - 1) _ x1 (by omega)   ) (by omega) (Nat.zero_le _) (Nat.zero_le _) (Nat.le_of_ble_eq_true rfl) (fun r1 V1 h1 => ?_)
  obtain ⟨⟨y1, rfl, hl1, hh1, hI1_0⟩, hE1⟩ := h1
  have hE1 := hE1.symm
  subst hE1
  refine Jz_if_eq (tgt := 17) jEq.rf dX7_forms_4 (by decide) (fun c4 => ?_) (fun c4 => ?_)
  · refine Jz_bipush (-2) dX7_forms_17 (by decide) (fun y17 he17 => ?_)
    exact J_ret (r := some (.int _)) dX7_forms_19 ⟨rfl, _, rfl, rfl⟩ (⟨⟨hW, he, ⟨_, rfl, (j_rng _).1, (j_rng _).2⟩⟩, hkp⟩)
  · have q4_0 := hI1_0.of (by omega)
    refine J_iload_n dX7_forms_7 rfl ?_
    refine Jz_iconst 0 dX7_forms_8 (by decide) (fun y8 he8 => ?_)
    refine Jz_bipush 7 dX7_forms_9 (by decide) (fun y9 he9 => ?_)
    refine J_callS3 moX7_in jw_ml_X7_105 jw_st_X7_in dX7_forms_11 (w_X7_in (d - 1) _ x2 y8 y9 (by omega)   ) (by omega) (Nat.zero_le _) (Nat.zero_le _) (Nat.le_of_ble_eq_true rfl) (fun r11 V11 h11 => ?_)
    obtain ⟨⟨y11, rfl, hl11, hh11, hI11_0, hI11_1⟩, hE11⟩ := h11
    have hE11 := hE11.symm
    subst hE11
    refine Jz_if_ne (tgt := 20) jEq.rf dX7_forms_14 (by decide) (fun c14 => ?_) (fun c14 => ?_)
    · have q14_0 := hI11_0.of (by omega)
      try simp only [he8.eq, he9.eq] at q14_0
      refine J_aload_n dX7_forms_20 rfl ?_
      refine J_iload_n dX7_forms_21 rfl ?_
      refine J_iload_n dX7_forms_22 rfl ?_
      refine Jw_callV2 (q9 := (RX7, TX7, 34)) moX7_counts jw_ml_X7_187 jw_im_X7_counts jw_se_X7_counts ha0 rfl rfl dX7_forms_23 (w_X7_counts (d - 1) _ a0 x1 x2 (by omega) hW  ha0 (by omega) (by omega) (by omega) (by omega)) (by omega) (Nat.zero_le _) (Nat.zero_le _) (Nat.le_of_ble_eq_true rfl) (fun r23 V23 h23 => ?_)
      obtain ⟨h23, hX23_0⟩ := h23
      obtain ⟨hW, hx23, hr23⟩ := h23
      have he := he.trans (hx23.sub (jsub_of rfl))
      have hkp := hkp.trans hX23_0
      have ha0 := ha0.mono hx23.1
      cases hr23
      refine J_aload_n dX7_forms_26 rfl ?_
      obtain ⟨fs27, hO27, hK27⟩ := WT_obj hW id ha0
      obtain ⟨w27, hF27, b27, rfl, hb27⟩ := hK27.2 12 (.inr (some (.inl 23))) rfl
      refine J_get jf_X7_41 dX7_forms_27 hO27 hF27 ?_
      refine Jz_bipush 21 dX7_forms_30 (by decide) (fun y30 he30 => ?_)
      refine J_iload_n dX7_forms_32 rfl ?_
      refine Jz_imul he30 jEq.rf dX7_forms_33 (by omega) (by omega) (fun y33 he33 => ?_)
      refine J_iload_n dX7_forms_34 rfl ?_
      refine Jz_iadd he33 jEq.rf dX7_forms_35 (by omega) (by omega) (fun y35 he35 => ?_)
      obtain ⟨n36, f36, hA36, hN36, hM36, hv36⟩ := WT_arrI (r := (-2147483648, 2147483647)) hW id rfl hb27
      obtain rfl := hM36 84 rfl
      clear hN36 hM36
      refine Jz_ialdw he35 dX7_forms_36 hA36 rfl (by omega) (by omega) (fun y36 => ?_)
      refine Jz_bipush (-5) dX7_forms_37 (by decide) (fun y37 he37 => ?_)
      refine Jz_icmp_eq (tgt := 59) jEq.rf he37 dX7_forms_39 (by decide) (fun c39 => ?_) (fun c39 => ?_)
      · refine Jz_bipush (-5) dX7_forms_59 (by decide) (fun y59 he59 => ?_)
        exact J_ret (r := some (.int _)) dX7_forms_61 ⟨rfl, _, rfl, rfl⟩ (⟨⟨hW, he, ⟨_, rfl, (j_rng _).1, (j_rng _).2⟩⟩, hkp⟩)
      · refine J_aload_n dX7_forms_42 rfl ?_
        refine J_get jf_X7_41 dX7_forms_43 hO27 hF27 ?_
        refine Jz_bipush 21 dX7_forms_46 (by decide) (fun y46 he46 => ?_)
        refine J_iload_n dX7_forms_48 rfl ?_
        refine Jz_imul he46 jEq.rf dX7_forms_49 (by omega) (by omega) (fun y49 he49 => ?_)
        refine J_iload_n dX7_forms_50 rfl ?_
        refine Jz_iadd he49 jEq.rf dX7_forms_51 (by omega) (by omega) (fun y51 he51 => ?_)
        refine Jz_ialdw he51 dX7_forms_52 hA36 rfl (by omega) (by omega) (fun y52 => ?_)
        refine Jz_sipush 3000 dX7_forms_53 (by decide) (fun y53 he53 => ?_)
        refine Jz_icmp_le (tgt := 62) jEq.rf he53 dX7_forms_56 (by decide) (fun c56 => ?_) (fun c56 => ?_)
        · refine Jz_bipush 8 dX7_forms_62 (by decide) (fun y62 he62 => ?_)
          refine J_iload_n dX7_forms_64 rfl ?_
          refine Jz_imul he62 jEq.rf dX7_forms_65 (by omega) (by omega) (fun y65 he65 => ?_)
          refine J_iload_n dX7_forms_66 rfl ?_
          refine Jz_iadd he65 jEq.rf dX7_forms_67 (by omega) (by omega) (fun y67 he67 => ?_)
          refine J_istore_n dX7_forms_68 rfl (by decide) ?_
          refine J_aload_n dX7_forms_69 rfl ?_
          obtain ⟨w70, hF70, b70, rfl, hb70⟩ := hK27.2 18 (.inr (some (.inl 27))) rfl
          refine J_get jf_X7_61 dX7_forms_70 hO27 hF70 ?_
          refine J_iload_n dX7_forms_73 rfl ?_
          obtain ⟨n74, f74, hA74, hN74, hM74, hv74⟩ := WT_arrI (r := (-2147483648, 2147483647)) hW id rfl hb70
          obtain rfl := hM74 32 rfl
          clear hN74 hM74
          refine Jz_ialdw he67 dX7_forms_74 hA74 rfl (by omega) (by omega) (fun y74 => ?_)
          refine Jz_if_ne (tgt := 142) jEq.rf dX7_forms_75 (by decide) (fun c75 => ?_) (fun c75 => ?_)
          · refine J_aload_n dX7_forms_142 rfl ?_
            refine J_get jf_X7_61 dX7_forms_143 hO27 hF70 ?_
            refine J_iload_n dX7_forms_146 rfl ?_
            refine Jz_ialdw he67 dX7_forms_147 hA74 rfl (by omega) (by omega) (fun y147 => ?_)
            exact J_ret (r := some (.int _)) dX7_forms_148 ⟨rfl, _, rfl, rfl⟩ (⟨⟨hW, he, ⟨_, rfl, (j_rng _).1, (j_rng _).2⟩⟩, hkp⟩)
          · refine J_iload_n dX7_forms_78 rfl ?_
            refine J_callS1 moX7_directions jw_ml_X7_133 jw_st_X7_directions dX7_forms_79 (w_X7_directions (d - 1) _ x1 (by omega)   ) (by omega) (Nat.zero_le _) (Nat.zero_le _) (Nat.le_of_ble_eq_true rfl) (fun r79 V79 h79 => ?_)
            obtain ⟨⟨y79, rfl, hl79, hh79, hP79_0⟩, hE79⟩ := h79
            have hE79 := hE79.symm
            subst hE79
            have hz79 : jEq y79.toInt (jdir (x1.toInt)) := hP79_0
            simp only [hP79_0] at hl79 hh79
            clear hP79_0
            refine J_iload_n dX7_forms_82 rfl ?_
            have hjd := jdir_cases x1.toInt
            refine J_callS2 moX7_power jw_ml_X7_195 jw_st_X7_power dX7_forms_83 (w_X7_power (d - 1) _ y79 x2 (by omega)   (by (try simp only [hz79.eq, true_and, and_true]) <;> omega) (by (try simp only [hz79.eq, true_and, and_true]) <;> omega) (by omega) (by omega)) (by omega) (Nat.zero_le _) (Nat.zero_le _) (Nat.le_of_ble_eq_true rfl) (fun r83 V83 h83 => ?_)
            obtain ⟨⟨y83, rfl, hl83, hh83, hP83_0⟩, hE83⟩ := h83
            have hE83 := hE83.symm
            subst hE83
            clear hl83 hh83
            try simp only [hz79.eq] at hP83_0
            have hz83 : jEq y83.toInt (jpw (jdir (x1.toInt)) (x2.toInt).toNat) := hP83_0
            clear hP83_0
            have hpw := jpw_le6 (d := jdir x1.toInt) (by omega) (by omega) (n := x2.toInt.toNat) (by omega)
            refine J_istore dX7_forms_86 rfl (by decide) ?_
            refine Jz_iconst 0 dX7_forms_88 (by decide) (fun y88 he88 => ?_)
            refine J_istore dX7_forms_89 rfl (by decide) ?_
            have L91 : ∀ (N : Nat) (V : jH) (i5n91 : Int32), WT V → jeff [.inr 5, .inl 40, .inl 23, .inl 17, .inl 18, .inl 19, .inl 20, .inl 41, .inl 26, .inl 46, .inl 24, .inl 25, .inl 21, .inl 27] V0 V → (jis V (.inr 5) a0) → (jkc 5 [0, 23, 24, 26, 27, 28] V0 V) → (0 ≤ i5n91.toInt) → (300000 - i5n91.toInt).toNat < N → J tS mX7_forms d 91 [some (.ref a0), some (.int x1), some (.int x2), some (.int y67), some (.int y83), some (.int i5n91)] [] V 0 0 (fun r V => (jPost [.inr 5, .inl 40, .inl 23, .inl 17, .inl 18, .inl 19, .inl 20, .inl 41, .inl 26, .inl 46, .inl 24, .inl 25, .inl 21, .inl 27] V0 (fun r _ => ∃ y : Int32, r = some (.int y) ∧ ((-2147483648) ≤ y.toInt) ∧ (y.toInt ≤ 2147483647))) r V ∧ jkc 5 [0, 23, 24, 26, 27, 28] V0 V) := by
              intro N
              induction N with
              | zero => intro V i5n91 hW he ha0 hkp hi5 hm; exact absurd hm (Nat.not_lt_zero _)
              | succ N ih =>
                intro V i5n91 hW he ha0 hkp hi5 hm
                have ih91 := ih
                have hri5 := j_rng i5n91
                refine J_iload dX7_forms_91 rfl ?_
                refine J_iload dX7_forms_93 rfl ?_
                refine Jz_icmp_ge (tgt := 142) jEq.rf hz83 dX7_forms_95 (by decide) (fun c95 => ?_) (fun c95 => ?_)
                · refine J_aload_n dX7_forms_142 rfl ?_
                  obtain ⟨fs143, hO143, hK143⟩ := WT_obj hW id ha0
                  obtain ⟨w143, hF143, b143, rfl, hb143⟩ := hK143.2 18 (.inr (some (.inl 27))) rfl
                  refine J_get jf_X7_61 dX7_forms_143 hO143 hF143 ?_
                  refine J_iload_n dX7_forms_146 rfl ?_
                  obtain ⟨n147, f147, hA147, hN147, hM147, hv147⟩ := WT_arrI (r := (-2147483648, 2147483647)) hW id rfl hb143
                  obtain rfl := hM147 32 rfl
                  clear hN147 hM147
                  refine Jz_ialdw he67 dX7_forms_147 hA147 rfl (by omega) (by omega) (fun y147 => ?_)
                  exact J_ret (r := some (.int _)) dX7_forms_148 ⟨rfl, _, rfl, rfl⟩ (⟨⟨hW, he, ⟨_, rfl, (j_rng _).1, (j_rng _).2⟩⟩, hkp⟩)
                · refine J_aload_n dX7_forms_98 rfl ?_
                  refine J_iload_n dX7_forms_99 rfl ?_
                  refine J_iload_n dX7_forms_100 rfl ?_
                  refine J_iload dX7_forms_101 rfl ?_
                  obtain ⟨fs103p22, hO103p22, hK103p22⟩ := WT_obj hW id ha0
                  obtain ⟨w103p22, hF103p22, y103p22, rfl, hl103p22, hh103p22⟩ := hK103p22.2 22 (.inl ((-2147483648), 2147483647)) rfl
                  dsimp only at hl103p22 hh103p22
                  obtain ⟨w103p4, hF103p4, b103p4, rfl, hb103p4⟩ := hK103p22.2 4 (.inr (some (.inl 17))) rfl
                  refine Jw_callV3 (q9 := (RX7, TX7, 34)) moX7_rowOf jw_ml_X7_198 jw_im_X7_rowOf jw_se_X7_rowOf ha0 rfl rfl dX7_forms_103 (w_X7_rowOf (d - 1) _ a0 x1 x2 i5n91 y103p22 b103p4 (by omega) hW  ha0 ⟨_, hO103p22, hF103p22⟩ ⟨_, hO103p22, hF103p4⟩ (by omega) (by omega) (by omega)) (by omega) (Nat.zero_le _) (Nat.zero_le _) (Nat.le_of_ble_eq_true rfl) (fun r103 V103 h103 => ?_)
                  obtain ⟨h103, hX103_0, hX103_1, ⟨fv103_0, hfv103_0, hfp103_0⟩, ⟨fv103_1, hfv103_1, hfp103_1⟩⟩ := h103
                  obtain ⟨hW, hx103, hr103⟩ := h103
                  have he := he.trans (hx103.sub (jsub_of rfl))
                  have hkp := hkp.trans hX103_1
                  have ha0 := ha0.mono hx103.1
                  have hb103p4 := hb103p4.mono hx103.1
                  obtain ⟨fs103a0, hOfs103a0, hRfs103a0⟩ := hx103.1.keep hO103p22
                  have hKfs103a0 : jokO _ (jFs 5) fs103a0 := hW _ _ id hOfs103a0
                  have hFfs103a0_4 := hRfs103a0 _ _ hF103p4
                  cases hr103
                  have hFv103_0 := hfv103_0.get hOfs103a0
                  have hzf103_0 : jEq fv103_0.toInt ((x2.toInt)) := hfp103_0
                  clear hfp103_0
                  have hFv103_1 := hfv103_1.get hOfs103a0
                  have hzf103_1 : jEq fv103_1.toInt ((y103p22.toInt)) := hfp103_1
                  clear hfp103_1
                  refine J_aload_n dX7_forms_106 rfl ?_
                  obtain ⟨w107, hF107, b107, rfl, hb107⟩ := hKfs103a0.2 18 (.inr (some (.inl 27))) rfl
                  refine J_get jf_X7_61 dX7_forms_107 hOfs103a0 hF107 ?_
                  refine J_iload_n dX7_forms_110 rfl ?_
                  refine J_dup2 dX7_forms_111 rfl rfl ?_
                  obtain ⟨n112, f112, hA112, hN112, hM112, hv112⟩ := WT_arrI (r := (-2147483648, 2147483647)) hW id rfl hb107
                  obtain rfl := hM112 32 rfl
                  clear hN112 hM112
                  refine Jz_ialdw he67 dX7_forms_112 hA112 rfl (by omega) (by omega) (fun y112 => ?_)
                  refine J_aload_n dX7_forms_113 rfl ?_
                  refine J_iload_n dX7_forms_114 rfl ?_
                  refine Jw_callV1 (q9 := (RX7, TX7, 34)) moX7_goes jw_ml_X7_122 jw_im_X7_goes jw_se_X7_goes ha0 rfl rfl dX7_forms_115 (w_X7_goes (d - 1) _ a0 x1 (by omega) hW  ha0) (by omega) (Nat.zero_le _) (Nat.zero_le _) (Nat.le_of_ble_eq_true rfl) (fun r115 V115 h115 => ?_)
                  obtain ⟨hW, hx115, hr115⟩ := h115
                  have he := he.trans (hx115.sub (jsub_of rfl))
                  have hkp := hkp.trans (jkc.of hx115 (jnot_of rfl))
                  have ha0 := ha0.mono hx115.1
                  have hb103p4 := hb103p4.mono hx115.1
                  have hb107 := hb107.mono hx115.1
                  have hOfs103a0 := hx115.2 _ _ hOfs103a0 (jnot_of rfl)
                  have hKfs103a0 := hKfs103a0.mono hx115.1
                  have hA112 := hx115.2 _ _ hA112 (jnot_of rfl)
                  obtain ⟨y115, rfl, hl115, hh115⟩ := hr115
                  have K134 : ∀ (V : jH) (t0k134 : Int32), WT V → jeff [.inr 5, .inl 40, .inl 23, .inl 17, .inl 18, .inl 19, .inl 20, .inl 41, .inl 26, .inl 46, .inl 24, .inl 25, .inl 21, .inl 27] V0 V → jis V (.inr 5) a0 → jis V (.inl 27) b107 → jkc 5 [0, 23, 24, 26, 27, 28] V0 V → J tS mX7_forms d 134 [some (.ref a0), some (.int x1), some (.int x2), some (.int y67), some (.int y83), some (.int i5n91)] [.int t0k134, .int y112, .int y67, .ref b107] V 0 0 (fun r V => (jPost [.inr 5, .inl 40, .inl 23, .inl 17, .inl 18, .inl 19, .inl 20, .inl 41, .inl 26, .inl 46, .inl 24, .inl 25, .inl 21, .inl 27] V0 (fun r _ => ∃ y : Int32, r = some (.int y) ∧ ((-2147483648) ≤ y.toInt) ∧ (y.toInt ≤ 2147483647))) r V ∧ jkc 5 [0, 23, 24, 26, 27, 28] V0 V) := by
                    intro V t0k134 hW he ha0 hb107 hkp  
                    refine Jz_iaddw dX7_forms_134 (fun y134  => ?_)
                    obtain ⟨n135, f135, hA135, hN135, hM135, hv135⟩ := WT_arrI (r := (-2147483648, 2147483647)) hW id rfl hb107
                    obtain rfl := hM135 32 rfl
                    clear hN135 hM135
                    refine Jz_iastw (r := ((-2147483648), 2147483647)) he67 jEq.rf hW id dX7_forms_135 hA135 rfl rfl (by omega) (by omega) (j_rng _).1 (j_rng _).2 (fun V135 hW hx135 => ?_)
                    have he := he.trans (hx135.sub (jsub_of rfl))
                    have hkp := hkp.trans (jkc.of hx135 (jnot_of rfl))
                    have ha0 := ha0.mono hx135.1
                    refine Jz_iinc 1 dX7_forms_136 rfl rfl (by decide) jEq.rf (by decide) (by omega) (by omega) (fun y136 he136 => ?_)
                    refine J_goto (tgt := 91) dX7_forms_139 (by decide) ?_
                    refine J.mask [true, true, true, true, true, true] ?_
                    exact ih91 _ y136 hW he ha0 hkp (by (try simp only [he136.eq, true_and, and_true]) <;> omega) (by (try simp only [he136.eq, true_and, and_true]) <;> omega)
                  refine Jz_if_eq (tgt := 133) jEq.rf dX7_forms_118 (by decide) (fun c118 => ?_) (fun c118 => ?_)
                  · refine Jz_iconst 0 dX7_forms_133 (by decide) (fun y133 he133 => ?_)
                    exact K134 _ y133 hW he ha0 hb107 hkp 
                  · refine J_aload_n dX7_forms_121 rfl ?_
                    refine J_iload_n dX7_forms_122 rfl ?_
                    refine Jw_callV1 (q9 := (RX7, TX7, 34)) moX7_isForm jw_ml_X7_202 jw_im_X7_isForm jw_se_X7_isForm ha0 rfl rfl dX7_forms_123 (w_X7_isForm (d - 1) _ a0 x1 fv103_0 (by omega) hW  ha0 ⟨_, hOfs103a0, hFv103_0⟩ (by (try simp only [hzf103_0.eq, true_and, and_true]) <;> omega)) (by omega) (Nat.zero_le _) (Nat.zero_le _) (Nat.le_of_ble_eq_true rfl) (fun r123 V123 h123 => ?_)
                    obtain ⟨hW, hx123, hr123⟩ := h123
                    have he := he.trans (hx123.sub (jsub_of rfl))
                    have hkp := hkp.trans (jkc.of hx123 (jnot_of rfl))
                    have ha0 := ha0.mono hx123.1
                    have hb103p4 := hb103p4.mono hx123.1
                    have hb107 := hb107.mono hx123.1
                    have hOfs103a0 := hx123.2 _ _ hOfs103a0 (jnot_of rfl)
                    have hKfs103a0 := hKfs103a0.mono hx123.1
                    have hA112 := hx123.2 _ _ hA112 (jnot_of rfl)
                    obtain ⟨y123, rfl, hl123, hh123⟩ := hr123
                    refine Jz_if_eq (tgt := 133) jEq.rf dX7_forms_126 (by decide) (fun c126 => ?_) (fun c126 => ?_)
                    · refine Jz_iconst 0 dX7_forms_133 (by decide) (fun y133 he133 => ?_)
                      exact K134 _ y133 hW he ha0 hb107 hkp 
                    · refine Jz_iconst 1 dX7_forms_129 (by decide) (fun y129 he129 => ?_)
                      refine J_goto (tgt := 134) dX7_forms_130 (by decide) ?_
                      exact K134 _ y129 hW he ha0 hb107 hkp 
            refine J.mask [true, true, true, true, true, true] ?_
            exact L91 _ _ y88 hW he ha0 hkp (by (try simp only [he88.eq, true_and, and_true]) <;> omega) (Nat.lt_succ_self _)
        · refine Jz_bipush (-5) dX7_forms_59 (by decide) (fun y59 he59 => ?_)
          exact J_ret (r := some (.int _)) dX7_forms_61 ⟨rfl, _, rfl, rfl⟩ (⟨⟨hW, he, ⟨_, rfl, (j_rng _).1, (j_rng _).2⟩⟩, hkp⟩)
    · have q14_1 := hI11_1.of (by omega)
      try simp only [he8.eq, he9.eq] at q14_1
      refine Jz_bipush (-2) dX7_forms_17 (by decide) (fun y17 he17 => ?_)
      exact J_ret (r := some (.int _)) dX7_forms_19 ⟨rfl, _, rfl, rfl⟩ (⟨⟨hW, he, ⟨_, rfl, (j_rng _).1, (j_rng _).2⟩⟩, hkp⟩)
set_option maxRecDepth 100000 in
set_option maxHeartbeats 8000000 in
theorem w_X7_meets {tS : jTS} (d : Nat) (V0 : jH) (a0 : Nat) (x1 : Int32) (v22 : Int32) (rb : Nat) (NN : Nat) (F42 : Nat → Int32) (hd : 0 ≤ d) (hW : WT V0) (ha0 : jis V0 (.inr 5) a0) (hf_v22 : jfI V0 a0 5 22 v22) (hr_rb : jfR V0 a0 5 20 rb) (ha_F42 : V0 rb = some (.inl (42, 10000, .inl F42))) (hp0 : NN ≤ 10000) (hp1 : 0 ≤ x1.toInt) (hp2 : x1.toInt < (NN : Int)) (hp3 : v22.toInt = (jcn 0 F42 NN : Int)) : jTot tS mX7_meets d [.ref a0, .int x1] V0 0 0 (fun r V => (jPost [.inl 42, .inl 29, .inr 5] V0 rV) r V ∧ (∃ (G : Nat → Int32) (v : Int32), V rb = some (.inl (42, 10000, .inl G)) ∧ jfI V a0 5 22 v ∧ v.toInt = (jcn 0 G NN : Int)) ∧ jkc 5 [0, 23, 24, 26, 27, 28] V0 V) := by
  refine jTot.of_J [some (.ref a0), some (.int x1)] moX7_meets (Nat.le_of_ble_eq_true rfl) rfl ?_
  have hrx1 := j_rng x1
  have he : jeff [.inl 42, .inl 29, .inr 5] V0 V0 := jeff.refl _ _
  have hkp : jkc 5 [0, 23, 24, 26, 27, 28] V0 V0 := jkc.rf
  obtain ⟨fs_a0, hO_a0, hK_a0⟩ := WT_obj hW id ha0
  have hF_v22 := hf_v22.get hO_a0
  have hrv22 : (-2147483648) ≤ v22.toInt ∧ v22.toInt ≤ 2147483647 := jok_rngI hK_a0 rfl hF_v22
  have hF_rb := hr_rb.get hO_a0
  obtain ⟨w_rb, hFq_rb, b_rb, hbq_rb, hb_rb⟩ := hK_a0.2 20 (.inr (some (.inl 42))) rfl
  cases hF_rb.symm.trans (hFq_rb.trans (congrArg some hbq_rb))
  obtain ⟨hN_F42, hv_F42⟩ := WT_rngI (r := (0, 1)) hW id rfl ha_F42
  clear hN_F42
  refine J_aload_n dX7_meets_0 rfl ?_
  refine J_get jf_X7_67 dX7_meets_1 hO_a0 hF_rb ?_
  refine J_iload_n dX7_meets_4 rfl ?_
  refine Jz_zald (r := (0, 1)) jEq.rf dX7_meets_5 ha_F42 rfl hv_F42 (by omega) (by omega) (fun y5 hf5 hl5 hh5 => ?_)
  dsimp only at hl5 hh5
  have hlt : y5.toInt = 0 → jcn 0 F42 NN < NN := fun h => jcn_lt (k := x1.toInt.toNat) (by rw [hf5]; exact h) NN (by omega)
  refine Jz_if_ne (tgt := 36) jEq.rf dX7_meets_6 (by decide) (fun c6 => ?_) (fun c6 => ?_)
  · exact J_ret (r := none) dX7_meets_36 ⟨rfl, rfl⟩ (⟨⟨hW, he, rfl⟩, ⟨F42, v22, ha_F42, ⟨_, hO_a0, hF_v22⟩, by first | exact hp3 | (rw [hup]; have hh9 := he32.eq; omega)⟩, hkp⟩)
  · refine J_aload_n dX7_meets_9 rfl ?_
    refine J_get jf_X7_67 dX7_meets_10 hO_a0 hF_rb ?_
    refine J_iload_n dX7_meets_13 rfl ?_
    refine Jz_iconst 1 dX7_meets_14 (by decide) (fun y14 he14 => ?_)
    have hlt := hlt (by omega)
    have hz9 : (F42 x1.toInt.toNat).toInt = 0 := by rw [hf5]; omega
    refine Jz_zast (r := (0, 1)) jEq.rf he14 hW id dX7_meets_15 ha_F42 rfl rfl (by omega) (by omega) (by omega) (by omega) (fun _ h => vp_nar_b (by omega) (by omega)) (fun V15 G15 hW hx15 hA15 hp15 ho15 => ?_)
    obtain ⟨hN15, hv15⟩ := WT_rngI (r := (0, 1)) hW id rfl hA15
    clear hN15
    have he := he.trans (hx15.sub (jsub_of rfl))
    have hkp := hkp.trans (jkc.of hx15 (jnot_of rfl))
    have ha0 := ha0.mono hx15.1
    have hb_rb := hb_rb.mono hx15.1
    have hO_a0 := hx15.2 _ _ hO_a0 (jnot_of rfl)
    have hK_a0 := hK_a0.mono hx15.1
    have hup := jcn_up (c := 0) hz9 (by rw [hp15, he14.eq]; omega) ho15 NN (by omega)
    refine J_aload_n dX7_meets_16 rfl ?_
    obtain ⟨w17, hF17, b17, rfl, hb17⟩ := hK_a0.2 21 (.inr (some (.inl 29))) rfl
    refine J_get jf_X7_70 dX7_meets_17 hO_a0 hF17 ?_
    refine J_aload_n dX7_meets_20 rfl ?_
    refine J_get jf_X7_205 dX7_meets_21 hO_a0 hF_v22 ?_
    refine J_iload_n dX7_meets_24 rfl ?_
    obtain ⟨n25, f25, hA25, hN25, hM25, hv25⟩ := WT_arrI (r := (0, 9999)) hW id rfl hb17
    obtain rfl := hM25 10000 rfl
    clear hN25 hM25
    refine Jz_iastw (r := (0, 9999)) jEq.rf jEq.rf hW id dX7_meets_25 hA25 rfl rfl (by omega) (by omega) (by omega) (by omega) (fun V25 hW hx25 => ?_)
    have he := he.trans (hx25.sub (jsub_of rfl))
    have hkp := hkp.trans (jkc.of hx25 (jnot_of rfl))
    have ha0 := ha0.mono hx25.1
    have hb_rb := hb_rb.mono hx25.1
    have hb17 := hb17.mono hx25.1
    have hO_a0 := hx25.2 _ _ hO_a0 (jnot_of rfl)
    have hK_a0 := hK_a0.mono hx25.1
    have hA15 := hx25.2 _ _ hA15 (jnot_of rfl)
    refine J_aload_n dX7_meets_26 rfl ?_
    refine J_dup dX7_meets_27 rfl ?_
    refine J_get jf_X7_205 dX7_meets_28 hO_a0 hF_v22 ?_
    refine Jz_iconst 1 dX7_meets_31 (by decide) (fun y31 he31 => ?_)
    refine Jz_iadd jEq.rf he31 dX7_meets_32 (by omega) (by omega) (fun y32 he32 => ?_)
    refine Jz_putI hO_a0 hW id rfl jf_X7_205 jt_X7_22 he32 dX7_meets_33 (by omega) (by omega) (fun _ _ => ⟨rfl, rfl⟩) (fun V33 fs33 hW hx33 hO33 hS33 hT33 hB33 => ?_)
    have hK33 : jokO _ (jFs 5) fs33 := hW _ _ id hO33
    have hF33_20 := (hT33 20 (by decide)).trans hF_rb
    have hF33_21 := (hT33 21 (by decide)).trans hF17
    have he := he.trans (hx33.sub (jsub_of rfl))
    have hkp := hkp.trans (jkc.put hO_a0 hO33 hT33 hB33 (by decide))
    have ha0 := ha0.mono hx33.1
    have hb_rb := hb_rb.mono hx33.1
    have hb17 := hb17.mono hx33.1
    have hA15 := hx33.2 _ _ hA15 (jnot_of rfl)
    exact J_ret (r := none) dX7_meets_36 ⟨rfl, rfl⟩ (⟨⟨hW, he, rfl⟩, ⟨G15, y32, hA15, ⟨_, hO33, hS33⟩, by first | exact hp3 | (rw [hup]; have hh9 := he32.eq; omega)⟩, hkp⟩)
set_option maxRecDepth 100000 in
set_option maxHeartbeats 8000000 in
theorem w_X7_turnsAll {tS : jTS} (d : Nat) (V0 : jH) (a0 : Nat) (x1 : Int32) (x2 : Int32) (x3 : Int32) (v22 : Int32) (rb : Nat) (NN : Nat) (F42 : Nat → Int32) (hd : 2 ≤ d) (hW : WT V0) (ha0 : jis V0 (.inr 5) a0) (hf_v22 : jfI V0 a0 5 22 v22) (hr_rb : jfR V0 a0 5 20 rb) (ha_F42 : V0 rb = some (.inl (42, 10000, .inl F42))) (hp0 : NN ≤ 10000) (hp1 : 0 ≤ x1.toInt) (hp2 : x1.toInt ≤ 3) (hp3 : 1 ≤ x2.toInt) (hp4 : x2.toInt ≤ 6) (hp5 : 0 ≤ x3.toInt) (hp6 : (NN : Int) = jpw (jdir x1.toInt) x2.toInt.toNat) (hp7 : v22.toInt = (jcn 0 F42 NN : Int)) : jTot tS mX7_turnsAll d [.ref a0, .int x1, .int x2, .int x3] V0 0 0 (fun r V => (jPost [.inr 5, .inl 17, .inl 18, .inl 19, .inl 20, .inl 42, .inl 29] V0 rV) r V ∧ (∃ (G : Nat → Int32) (v : Int32), V rb = some (.inl (42, 10000, .inl G)) ∧ jfI V a0 5 22 v ∧ v.toInt = (jcn 0 G NN : Int)) ∧ jkc 5 [0, 23, 24, 26, 27, 28] V0 V) := by
  refine jTot.of_J [some (.ref a0), some (.int x1), some (.int x2), some (.int x3), none, none, none, none] moX7_turnsAll (Nat.le_of_ble_eq_true rfl) rfl ?_
  have hrx1 := j_rng x1
  have hrx2 := j_rng x2
  have hrx3 := j_rng x3
  have he : jeff [.inr 5, .inl 17, .inl 18, .inl 19, .inl 20, .inl 42, .inl 29] V0 V0 := jeff.refl _ _
  have hkp : jkc 5 [0, 23, 24, 26, 27, 28] V0 V0 := jkc.rf
  obtain ⟨fs_a0, hO_a0, hK_a0⟩ := WT_obj hW id ha0
  have hF_v22 := hf_v22.get hO_a0
  have hrv22 : (-2147483648) ≤ v22.toInt ∧ v22.toInt ≤ 2147483647 := jok_rngI hK_a0 rfl hF_v22
  have hF_rb := hr_rb.get hO_a0
  obtain ⟨w_rb, hFq_rb, b_rb, hbq_rb, hb_rb⟩ := hK_a0.2 20 (.inr (some (.inl 42))) rfl
  cases hF_rb.symm.trans (hFq_rb.trans (congrArg some hbq_rb))
  obtain ⟨hN_F42, hv_F42⟩ := WT_rngI (r := (0, 1)) hW id rfl ha_F42
  clear hN_F42
  refine Jz_iconst 0 dX7_turnsAll_0 (by decide) (fun y0 he0 => ?_)
  refine J_istore dX7_turnsAll_1 rfl (by decide) ?_
  have L3 : ∀ (N : Nat) (V : jH) (i4n3 : Int32) (gs3a0 : List Value) (g22n3 : Int32) (F42n3 : Nat → Int32), WT V → jeff [.inr 5, .inl 17, .inl 18, .inl 19, .inl 20, .inl 42, .inl 29] V0 V → (jis V (.inr 5) a0) → (jis V (.inl 42) rb) → (jkc 5 [0, 23, 24, 26, 27, 28] V0 V) → (V a0 = some (.inr (5, gs3a0))) → (gs3a0[22]? = some (.int g22n3)) → (gs3a0[20]? = some (.ref rb)) → (V rb = some (.inl (42, 10000, .inl F42n3))) → (0 ≤ i4n3.toInt) → (g22n3.toInt = (jcn 0 F42n3 NN : Int)) → (300 - i4n3.toInt).toNat < N → J tS mX7_turnsAll d 3 [some (.ref a0), some (.int x1), some (.int x2), some (.int x3), some (.int i4n3), none, none, none] [] V 0 0 (fun r V => (jPost [.inr 5, .inl 17, .inl 18, .inl 19, .inl 20, .inl 42, .inl 29] V0 rV) r V ∧ (∃ (G : Nat → Int32) (v : Int32), V rb = some (.inl (42, 10000, .inl G)) ∧ jfI V a0 5 22 v ∧ v.toInt = (jcn 0 G NN : Int)) ∧ jkc 5 [0, 23, 24, 26, 27, 28] V0 V) := by
    intro N
    induction N with
    | zero => intro V i4n3 gs3a0 g22n3 F42n3 hW he ha0 hb_rb hkp hOgs3a0 hFgs3a0_22 hFgs3a0_20 hAF42n3 hi4 hq4 hm; exact absurd hm (Nat.not_lt_zero _)
    | succ N ih =>
      intro V i4n3 gs3a0 g22n3 F42n3 hW he ha0 hb_rb hkp hOgs3a0 hFgs3a0_22 hFgs3a0_20 hAF42n3 hi4 hq4 hm
      have ih3 := ih
      have hri4 := j_rng i4n3
      have hKgs3a0 : jokO V (jFs 5) gs3a0 := hW _ _ id hOgs3a0
      have hrgg22n3 : (-2147483648) ≤ g22n3.toInt ∧ g22n3.toInt ≤ 2147483647 := jok_rngI hKgs3a0 rfl hFgs3a0_22
      obtain ⟨hNF42n3, hvF42n3⟩ := WT_rngI (r := (0, 1)) hW id rfl hAF42n3
      clear hNF42n3
      refine J_iload dX7_turnsAll_3 rfl ?_
      refine J_iload_n dX7_turnsAll_5 rfl ?_
      refine Jz_icmp_ge (tgt := 136) jEq.rf jEq.rf dX7_turnsAll_6 (by decide) (fun c6 => ?_) (fun c6 => ?_)
      · exact J_ret (r := none) dX7_turnsAll_136 ⟨rfl, rfl⟩ (⟨⟨hW, he, rfl⟩, ⟨F42n3, g22n3, hAF42n3, ⟨_, hOgs3a0, hFgs3a0_22⟩, hq4⟩, hkp⟩)
      · refine Jz_iconst 0 dX7_turnsAll_9 (by decide) (fun y9 he9 => ?_)
        refine J_istore dX7_turnsAll_10 rfl (by decide) ?_
        have L12 : ∀ (N : Nat) (V : jH) (i5n12 : Int32) (gs12a0 : List Value) (g22n12 : Int32) (F42n12 : Nat → Int32), WT V → jeff [.inr 5, .inl 17, .inl 18, .inl 19, .inl 20, .inl 42, .inl 29] V0 V → (jis V (.inr 5) a0) → (jis V (.inl 42) rb) → (jkc 5 [0, 23, 24, 26, 27, 28] V0 V) → (V a0 = some (.inr (5, gs12a0))) → (gs12a0[22]? = some (.int g22n12)) → (gs12a0[20]? = some (.ref rb)) → (V rb = some (.inl (42, 10000, .inl F42n12))) → (0 ≤ i5n12.toInt) → (g22n12.toInt = (jcn 0 F42n12 NN : Int)) → (300 - i5n12.toInt).toNat < N → J tS mX7_turnsAll d 12 [some (.ref a0), some (.int x1), some (.int x2), some (.int x3), some (.int i4n3), some (.int i5n12), none, none] [] V 0 0 (fun r V => (jPost [.inr 5, .inl 17, .inl 18, .inl 19, .inl 20, .inl 42, .inl 29] V0 rV) r V ∧ (∃ (G : Nat → Int32) (v : Int32), V rb = some (.inl (42, 10000, .inl G)) ∧ jfI V a0 5 22 v ∧ v.toInt = (jcn 0 G NN : Int)) ∧ jkc 5 [0, 23, 24, 26, 27, 28] V0 V) := by
          intro N
          induction N with
          | zero => intro V i5n12 gs12a0 g22n12 F42n12 hW he ha0 hb_rb hkp hOgs12a0 hFgs12a0_22 hFgs12a0_20 hAF42n12 hi5 hq5 hm; exact absurd hm (Nat.not_lt_zero _)
          | succ N ih =>
            intro V i5n12 gs12a0 g22n12 F42n12 hW he ha0 hb_rb hkp hOgs12a0 hFgs12a0_22 hFgs12a0_20 hAF42n12 hi5 hq5 hm
            have ih12 := ih
            have hri5 := j_rng i5n12
            have hKgs12a0 : jokO V (jFs 5) gs12a0 := hW _ _ id hOgs12a0
            have hrgg22n12 : (-2147483648) ≤ g22n12.toInt ∧ g22n12.toInt ≤ 2147483647 := jok_rngI hKgs12a0 rfl hFgs12a0_22
            obtain ⟨hNF42n12, hvF42n12⟩ := WT_rngI (r := (0, 1)) hW id rfl hAF42n12
            clear hNF42n12
            refine J_iload dX7_turnsAll_12 rfl ?_
            refine J_iload_n dX7_turnsAll_14 rfl ?_
            refine J_callS1 moX7_turns jw_ml_X7_143 jw_st_X7_turns dX7_turnsAll_15 (w_X7_turns (d - 1) _ x1 (by omega)   ) (by omega) (Nat.zero_le _) (Nat.zero_le _) (Nat.le_of_ble_eq_true rfl) (fun r15 V15 h15 => ?_)
            obtain ⟨⟨y15, rfl, hl15, hh15, hP15_0⟩, hE15⟩ := h15
            have hE15 := hE15.symm
            subst hE15
            have hz15 : jEq y15.toInt (jtur (x1.toInt)) := hP15_0
            simp only [hP15_0] at hl15 hh15
            clear hP15_0
            refine Jz_icmp_ge (tgt := 130) jEq.rf hz15 dX7_turnsAll_18 (by decide) (fun c18 => ?_) (fun c18 => ?_)
            · refine Jz_iinc 1 dX7_turnsAll_130 rfl rfl (by decide) jEq.rf (by decide) (by omega) (by omega) (fun y130 he130 => ?_)
              refine J_goto (tgt := 3) dX7_turnsAll_133 (by decide) ?_
              refine J.mask [true, true, true, true, true, false, false, false] ?_
              exact ih3 _ y130 gs12a0 g22n12 F42n12 hW he ha0 hb_rb hkp hOgs12a0 hFgs12a0_22 hFgs12a0_20 hAF42n12 (by (try simp only [he130.eq, true_and, and_true]) <;> omega) (by (try simp only [he130.eq, true_and, and_true]) <;> omega) (by (try simp only [he130.eq, true_and, and_true]) <;> omega)
            · refine J_aload_n dX7_turnsAll_21 rfl ?_
              refine J_iload_n dX7_turnsAll_22 rfl ?_
              refine J_iload_n dX7_turnsAll_23 rfl ?_
              refine J_iload_n dX7_turnsAll_24 rfl ?_
              obtain ⟨w25p4, hF25p4, b25p4, rfl, hb25p4⟩ := hKgs12a0.2 4 (.inr (some (.inl 17))) rfl
              refine Jw_callV3 (q9 := (RX7, TX7, 34)) moX7_rowOf jw_ml_X7_198 jw_im_X7_rowOf jw_se_X7_rowOf ha0 rfl rfl dX7_turnsAll_25 (w_X7_rowOf (d - 1) _ a0 x1 x2 x3 g22n12 b25p4 (by omega) hW  ha0 ⟨_, hOgs12a0, hFgs12a0_22⟩ ⟨_, hOgs12a0, hF25p4⟩ (by omega) (by omega) (by omega)) (by omega) (Nat.zero_le _) (Nat.zero_le _) (Nat.le_of_ble_eq_true rfl) (fun r25 V25 h25 => ?_)
              obtain ⟨h25, hX25_0, hX25_1, ⟨fv25_0, hfv25_0, hfp25_0⟩, ⟨fv25_1, hfv25_1, hfp25_1⟩⟩ := h25
              obtain ⟨hW, hx25, hr25⟩ := h25
              have he := he.trans (hx25.sub (jsub_of rfl))
              have hkp := hkp.trans hX25_1
              have ha0 := ha0.mono hx25.1
              have hb_rb := hb_rb.mono hx25.1
              have hb25p4 := hb25p4.mono hx25.1
              obtain ⟨fs25a0, hOfs25a0, hRfs25a0⟩ := hx25.1.keep hOgs12a0
              have hKfs25a0 : jokO _ (jFs 5) fs25a0 := hW _ _ id hOfs25a0
              have hFfs25a0_20 := hRfs25a0 _ _ hFgs12a0_20
              have hFfs25a0_4 := hRfs25a0 _ _ hF25p4
              have hAF42n12 := hx25.2 _ _ hAF42n12 (jnot_of rfl)
              cases hr25
              have hFv25_0 := hfv25_0.get hOfs25a0
              have hzf25_0 : jEq fv25_0.toInt ((x2.toInt)) := hfp25_0
              clear hfp25_0
              have hFv25_1 := hfv25_1.get hOfs25a0
              have hzf25_1 : jEq fv25_1.toInt ((g22n12.toInt)) := hfp25_1
              clear hfp25_1
              obtain ⟨F17x, hA17x, hc17⟩ := hX25_0
              obtain ⟨hN_F17x, hv_F17x⟩ := WT_rngI (r := ((-2147483648), 2147483647)) hW id rfl hA17x
              clear hN_F17x
              refine Jz_iconst 0 dX7_turnsAll_28 (by decide) (fun y28 he28 => ?_)
              refine J_istore dX7_turnsAll_29 rfl (by decide) ?_
              refine Jz_iconst 0 dX7_turnsAll_31 (by decide) (fun y31 he31 => ?_)
              refine J_istore dX7_turnsAll_32 rfl (by decide) ?_
              have L34 : ∀ (N : Nat) (V : jH) (i6n34 : Int32) (i7n34 : Int32) (F17n34 : Nat → Int32), WT V → jeff [.inr 5, .inl 17, .inl 18, .inl 19, .inl 20, .inl 42, .inl 29] V0 V → (jis V (.inr 5) a0) → (jis V (.inl 42) rb) → (jis V (.inl 17) b25p4) → (jkc 5 [0, 23, 24, 26, 27, 28] V0 V) → (V a0 = some (.inr (5, fs25a0))) → (jokO V (jFs 5) fs25a0) → (V b25p4 = some (.inl (17, 120, .inl F17n34))) → (V rb = some (.inl (42, 10000, .inl F42n12))) → (0 ≤ i7n34.toInt ∧ i7n34.toInt ≤ x2.toInt) → (0 ≤ i6n34.toInt ∧ i6n34.toInt < jpw (jdir x1.toInt) i7n34.toInt.toNat) → (∀ k : Nat, (k : Int) < x2.toInt → 0 ≤ (F17n34 k).toInt ∧ (F17n34 k).toInt < jdir x1.toInt) → (300 - i7n34.toInt).toNat < N → J tS mX7_turnsAll d 34 [some (.ref a0), some (.int x1), some (.int x2), some (.int x3), some (.int i4n3), some (.int i5n12), some (.int i6n34), some (.int i7n34)] [] V 0 0 (fun r V => (jPost [.inr 5, .inl 17, .inl 18, .inl 19, .inl 20, .inl 42, .inl 29] V0 rV) r V ∧ (∃ (G : Nat → Int32) (v : Int32), V rb = some (.inl (42, 10000, .inl G)) ∧ jfI V a0 5 22 v ∧ v.toInt = (jcn 0 G NN : Int)) ∧ jkc 5 [0, 23, 24, 26, 27, 28] V0 V) := by
                intro N
                induction N with
                | zero => intro V i6n34 i7n34 F17n34 hW he ha0 hb_rb hb25p4 hkp hOfs25a0 hKfs25a0 hAF17n34 hAF42n12 hi7 hto hc hm; exact absurd hm (Nat.not_lt_zero _)
                | succ N ih =>
                  intro V i6n34 i7n34 F17n34 hW he ha0 hb_rb hb25p4 hkp hOfs25a0 hKfs25a0 hAF17n34 hAF42n12 hi7 hto hc hm
                  have ih34 := ih
                  have hri7 := j_rng i7n34
                  obtain ⟨hNF17n34, hvF17n34⟩ := WT_rngI (r := ((-2147483648), 2147483647)) hW id rfl hAF17n34
                  clear hNF17n34
                  refine J_iload dX7_turnsAll_34 rfl ?_
                  refine J_iload_n dX7_turnsAll_36 rfl ?_
                  refine Jz_icmp_ge (tgt := 100) jEq.rf jEq.rf dX7_turnsAll_37 (by decide) (fun c37 => ?_) (fun c37 => ?_)
                  · refine J_aload_n dX7_turnsAll_100 rfl ?_
                    refine J_get jf_X7_67 dX7_turnsAll_101 hOfs25a0 hFfs25a0_20 ?_
                    refine J_iload dX7_turnsAll_104 rfl ?_
                    have hjn : jpw (jdir x1.toInt) i7n34.toInt.toNat = (NN : Int) := by rw [show i7n34.toInt.toNat = x2.toInt.toNat by omega]; exact hp6.symm
                    refine Jz_zald (r := (0, 1)) jEq.rf dX7_turnsAll_106 hAF42n12 rfl hvF42n12 (by omega) (by omega) (fun y106 hf106 hl106 hh106 => ?_)
                    dsimp only at hl106 hh106
                    refine Jz_if_ne (tgt := 124) jEq.rf dX7_turnsAll_107 (by decide) (fun c107 => ?_) (fun c107 => ?_)
                    · refine Jz_iinc 1 dX7_turnsAll_124 rfl rfl (by decide) jEq.rf (by decide) (by omega) (by omega) (fun y124 he124 => ?_)
                      refine J_goto (tgt := 12) dX7_turnsAll_127 (by decide) ?_
                      refine J.mask [true, true, true, true, true, true, false, false] ?_
                      exact ih12 _ y124 fs25a0 fv25_1 F42n12 hW he ha0 hb_rb hkp hOfs25a0 hFv25_1 hFfs25a0_20 hAF42n12 (by (try simp only [he124.eq, hzf25_1.eq, true_and, and_true]) <;> omega) (by (try simp only [he124.eq, hzf25_1.eq, true_and, and_true]) <;> omega) (by (try simp only [he124.eq, hzf25_1.eq, true_and, and_true]) <;> omega)
                    · refine J_aload_n dX7_turnsAll_110 rfl ?_
                      refine J_iload_n dX7_turnsAll_111 rfl ?_
                      refine Jw_callV1 (q9 := (RX7, TX7, 34)) moX7_goes jw_ml_X7_122 jw_im_X7_goes jw_se_X7_goes ha0 rfl rfl dX7_turnsAll_112 (w_X7_goes (d - 1) _ a0 x1 (by omega) hW  ha0) (by omega) (Nat.zero_le _) (Nat.zero_le _) (Nat.le_of_ble_eq_true rfl) (fun r112 V112 h112 => ?_)
                      obtain ⟨hW, hx112, hr112⟩ := h112
                      have he := he.trans (hx112.sub (jsub_of rfl))
                      have hkp := hkp.trans (jkc.of hx112 (jnot_of rfl))
                      have ha0 := ha0.mono hx112.1
                      have hb_rb := hb_rb.mono hx112.1
                      have hb25p4 := hb25p4.mono hx112.1
                      have hOfs25a0 := hx112.2 _ _ hOfs25a0 (jnot_of rfl)
                      have hKfs25a0 := hKfs25a0.mono hx112.1
                      have hAF17n34 := hx112.2 _ _ hAF17n34 (jnot_of rfl)
                      have hAF42n12 := hx112.2 _ _ hAF42n12 (jnot_of rfl)
                      obtain ⟨y112, rfl, hl112, hh112⟩ := hr112
                      refine Jz_if_eq (tgt := 124) jEq.rf dX7_turnsAll_115 (by decide) (fun c115 => ?_) (fun c115 => ?_)
                      · refine Jz_iinc 1 dX7_turnsAll_124 rfl rfl (by decide) jEq.rf (by decide) (by omega) (by omega) (fun y124 he124 => ?_)
                        refine J_goto (tgt := 12) dX7_turnsAll_127 (by decide) ?_
                        refine J.mask [true, true, true, true, true, true, false, false] ?_
                        exact ih12 _ y124 fs25a0 fv25_1 F42n12 hW he ha0 hb_rb hkp hOfs25a0 hFv25_1 hFfs25a0_20 hAF42n12 (by (try simp only [he124.eq, hzf25_1.eq, true_and, and_true]) <;> omega) (by (try simp only [he124.eq, hzf25_1.eq, true_and, and_true]) <;> omega) (by (try simp only [he124.eq, hzf25_1.eq, true_and, and_true]) <;> omega)
                      · refine J_aload_n dX7_turnsAll_118 rfl ?_
                        refine J_iload dX7_turnsAll_119 rfl ?_
                        refine Jw_callV1 (q9 := (RX7, TX7, 34)) moX7_meets jw_ml_X7_208 jw_im_X7_meets jw_se_X7_meets ha0 rfl rfl dX7_turnsAll_121 (w_X7_meets (d - 1) _ a0 i6n34 fv25_1 rb NN F42n12 (by omega) hW  ha0 ⟨_, hOfs25a0, hFv25_1⟩ ⟨_, hOfs25a0, hFfs25a0_20⟩ hAF42n12 (by omega) (by omega) (by omega) (by (try simp only [hzf25_1.eq, true_and, and_true]) <;> omega)) (by omega) (Nat.zero_le _) (Nat.zero_le _) (Nat.le_of_ble_eq_true rfl) (fun r121 V121 h121 => ?_)
                        obtain ⟨h121, hX121_0, hX121_1⟩ := h121
                        obtain ⟨hW, hx121, hr121⟩ := h121
                        have he := he.trans (hx121.sub (jsub_of rfl))
                        have hkp := hkp.trans hX121_1
                        have ha0 := ha0.mono hx121.1
                        have hb_rb := hb_rb.mono hx121.1
                        have hb25p4 := hb25p4.mono hx121.1
                        obtain ⟨fs121a0, hOfs121a0, hRfs121a0⟩ := hx121.1.keep hOfs25a0
                        have hKfs121a0 : jokO _ (jFs 5) fs121a0 := hW _ _ id hOfs121a0
                        have hFfs121a0_20 := hRfs121a0 _ _ hFfs25a0_20
                        have hFfs121a0_4 := hRfs121a0 _ _ hFfs25a0_4
                        have hAF17n34 := hx121.2 _ _ hAF17n34 (jnot_of rfl)
                        cases hr121
                        obtain ⟨G121, v121, hA121, hv121, hc121⟩ := hX121_0
                        have hFv12122 := hv121.get hOfs121a0
                        obtain ⟨hN_G121, hv_G121⟩ := WT_rngI (r := (0, 1)) hW id rfl hA121
                        clear hN_G121
                        refine Jz_iinc 1 dX7_turnsAll_124 rfl rfl (by decide) jEq.rf (by decide) (by omega) (by omega) (fun y124 he124 => ?_)
                        refine J_goto (tgt := 12) dX7_turnsAll_127 (by decide) ?_
                        refine J.mask [true, true, true, true, true, true, false, false] ?_
                        exact ih12 _ y124 fs121a0 v121 G121 hW he ha0 hb_rb hkp hOfs121a0 hFv12122 hFfs121a0_20 hA121 (by (try simp only [he124.eq, true_and, and_true]) <;> omega) (by (try simp only [he124.eq, true_and, and_true]) <;> omega) (by (try simp only [he124.eq, true_and, and_true]) <;> omega)
                  · refine J_aload_n dX7_turnsAll_40 rfl ?_
                    refine J_get jf_X7_19 dX7_turnsAll_41 hOfs25a0 hFfs25a0_4 ?_
                    refine J_iload dX7_turnsAll_44 rfl ?_
                    refine J_iload dX7_turnsAll_46 rfl ?_
                    refine J_iload dX7_turnsAll_48 rfl ?_
                    have K76 : ∀ (t0k76 : Int32), (0 ≤ t0k76.toInt ∧ t0k76.toInt < jdir x1.toInt) → J tS mX7_turnsAll d 76 [some (.ref a0), some (.int x1), some (.int x2), some (.int x3), some (.int i4n3), some (.int i5n12), some (.int i6n34), some (.int i7n34)] [.int t0k76, .int i7n34, .ref b25p4] V 0 0 (fun r V => (jPost [.inr 5, .inl 17, .inl 18, .inl 19, .inl 20, .inl 42, .inl 29] V0 rV) r V ∧ (∃ (G : Nat → Int32) (v : Int32), V rb = some (.inl (42, 10000, .inl G)) ∧ jfI V a0 5 22 v ∧ v.toInt = (jcn 0 G NN : Int)) ∧ jkc 5 [0, 23, 24, 26, 27, 28] V0 V) := by
                      intro  t0k76     hk76_0
                      refine Jz_iast (r := ((-2147483648), 2147483647)) jEq.rf jEq.rf hW id dX7_turnsAll_76 hAF17n34 rfl rfl (by omega) (by omega) (j_rng _).1 (j_rng _).2 (fun V76 G76 hW hx76 hA76 hp76 ho76 => ?_)
                      obtain ⟨hN76, hv76⟩ := WT_rngI (r := ((-2147483648), 2147483647)) hW id rfl hA76
                      clear hN76
                      have he := he.trans (hx76.sub (jsub_of rfl))
                      have hkp := hkp.trans (jkc.of hx76 (jnot_of rfl))
                      have ha0 := ha0.mono hx76.1
                      have hb_rb := hb_rb.mono hx76.1
                      have hb25p4 := hb25p4.mono hx76.1
                      have hOfs25a0 := hx76.2 _ _ hOfs25a0 (jnot_of rfl)
                      have hKfs25a0 := hKfs25a0.mono hx76.1
                      have hAF42n12 := hx76.2 _ _ hAF42n12 (jnot_of rfl)
                      have hc76 : ∀ k : Nat, (k : Int) < x2.toInt → 0 ≤ (G76 k).toInt ∧ (G76 k).toInt < jdir x1.toInt := fun k hk => (Nat.decEq k i7n34.toInt.toNat).byCases (fun hq => by rw [hq, hp76]; omega) (fun hq => by rw [ho76 k hq]; exact hc k hk)
                      refine J_iload_n dX7_turnsAll_77 rfl ?_
                      refine J_callS1 moX7_directions jw_ml_X7_133 jw_st_X7_directions dX7_turnsAll_78 (w_X7_directions (d - 1) _ x1 (by omega)   ) (by omega) (Nat.zero_le _) (Nat.zero_le _) (Nat.le_of_ble_eq_true rfl) (fun r78 V78 h78 => ?_)
                      obtain ⟨⟨y78, rfl, hl78, hh78, hP78_0⟩, hE78⟩ := h78
                      have hE78 := hE78.symm
                      subst hE78
                      have hz78 : jEq y78.toInt (jdir (x1.toInt)) := hP78_0
                      simp only [hP78_0] at hl78 hh78
                      clear hP78_0
                      refine J_iload dX7_turnsAll_81 rfl ?_
                      have hjd := jdir_cases x1.toInt
                      have hmo := jpw_mono (d := jdir x1.toInt) (by omega) (show i7n34.toInt.toNat + 1 ≤ x2.toInt.toNat by omega)
                      have hst := jto_step hto.1 hto.2 (Int.le_refl 0) (show 0 < jdir x1.toInt by omega)
                      have hpe : jdir x1.toInt * jpw (jdir x1.toInt) i7n34.toInt.toNat = jpw (jdir x1.toInt) (i7n34.toInt.toNat + 1) := rfl
                      refine Jz_imul hz78 jEq.rf dX7_turnsAll_83 (by omega) (by omega) (fun y83 he83 => ?_)
                      refine J_aload_n dX7_turnsAll_84 rfl ?_
                      refine J_get jf_X7_19 dX7_turnsAll_85 hOfs25a0 hFfs25a0_4 ?_
                      refine J_iload dX7_turnsAll_88 rfl ?_
                      refine Jz_iald (r := ((-2147483648), 2147483647)) jEq.rf dX7_turnsAll_90 hA76 rfl hv76 (by omega) (by omega) (fun y90 hf90 hl90 hh90 => ?_)
                      dsimp only at hl90 hh90
                      clear hl90 hh90
                      have he90 : jEq y90.toInt (t0k76.toInt) := by rw [← hf90, hp76]; exact jEq.rf
                      have hst := jto_step hto.1 hto.2 (show 0 ≤ (G76 i7n34.toInt.toNat).toInt from (hc76 _ (by omega)).1) (hc76 _ (by omega)).2
                      rw [hp76] at hst
                      refine Jz_iadd he83 he90 dX7_turnsAll_91 (by omega) (by omega) (fun y91 he91 => ?_)
                      refine J_istore dX7_turnsAll_92 rfl (by decide) ?_
                      refine Jz_iinc 1 dX7_turnsAll_94 rfl rfl (by decide) jEq.rf (by decide) (by omega) (by omega) (fun y94 he94 => ?_)
                      refine J_goto (tgt := 34) dX7_turnsAll_97 (by decide) ?_
                      refine J.mask [true, true, true, true, true, true, true, true] ?_
                      exact ih34 _ y91 y94 G76 hW he ha0 hb_rb hb25p4 hkp hOfs25a0 hKfs25a0 hA76 hAF42n12 (by (try simp only [he91.eq, he94.eq, true_and, and_true]) <;> omega) (by rw [he91.eq, he94.eq, show (i7n34.toInt + 1).toNat = i7n34.toInt.toNat + 1 by omega]; exact ⟨hst.2.1, hst.2.2⟩) hc76 (by (try simp only [he91.eq, he94.eq, true_and, and_true]) <;> omega)
                    refine Jz_icmp_ge (tgt := 63) jEq.rf jEq.rf dX7_turnsAll_50 (by decide) (fun c50 => ?_) (fun c50 => ?_)
                    · refine J_iload_n dX7_turnsAll_63 rfl ?_
                      refine J_iload dX7_turnsAll_64 rfl ?_
                      refine J_aload_n dX7_turnsAll_66 rfl ?_
                      refine J_get jf_X7_19 dX7_turnsAll_67 hOfs25a0 hFfs25a0_4 ?_
                      refine J_iload dX7_turnsAll_70 rfl ?_
                      refine Jz_iald (r := ((-2147483648), 2147483647)) jEq.rf dX7_turnsAll_72 hAF17n34 rfl hvF17n34 (by omega) (by omega) (fun y72 hf72 hl72 hh72 => ?_)
                      dsimp only at hl72 hh72
                      clear hl72 hh72
                      have hb72 := hc i7n34.toInt.toNat (by omega)
                      rw [hf72] at hb72
                      refine J_callS3 moX7_turned jw_ml_X7_146 jw_st_X7_turned dX7_turnsAll_73 (w_X7_turned_in (d - 1) _ x1 i5n12 y72 (by omega)   (by omega) (by omega) (by omega) (by omega)) (by omega) (Nat.zero_le _) (Nat.zero_le _) (Nat.le_of_ble_eq_true rfl) (fun r73 V73 h73 => ?_)
                      obtain ⟨⟨y73, rfl, hl73, hh73, hP73_0⟩, hE73⟩ := h73
                      have hE73 := hE73.symm
                      subst hE73
                      exact K76  y73  (by omega)
                    · refine J_aload_n dX7_turnsAll_53 rfl ?_
                      refine J_get jf_X7_19 dX7_turnsAll_54 hOfs25a0 hFfs25a0_4 ?_
                      refine J_iload dX7_turnsAll_57 rfl ?_
                      refine Jz_iald (r := ((-2147483648), 2147483647)) jEq.rf dX7_turnsAll_59 hAF17n34 rfl hvF17n34 (by omega) (by omega) (fun y59 hf59 hl59 hh59 => ?_)
                      dsimp only at hl59 hh59
                      clear hl59 hh59
                      have hb59 := hc i7n34.toInt.toNat (by omega)
                      rw [hf59] at hb59
                      refine J_goto (tgt := 76) dX7_turnsAll_60 (by decide) ?_
                      exact K76  y59  (by omega)
              refine J.mask [true, true, true, true, true, true, true, true] ?_
              exact L34 _ _ y28 y31 F17x hW he ha0 hb_rb hb25p4 hkp hOfs25a0 hKfs25a0 hA17x hAF42n12 (by (try simp only [he28.eq, he31.eq, true_and, and_true]) <;> omega) (by rw [he28.eq, he31.eq]; exact ⟨Int.le_refl _, Int.zero_lt_one⟩) hc17 (Nat.lt_succ_self _)
        refine J.mask [true, true, true, true, true, true, false, false] ?_
        exact L12 _ _ y9 gs3a0 g22n3 F42n3 hW he ha0 hb_rb hkp hOgs3a0 hFgs3a0_22 hFgs3a0_20 hAF42n3 (by (try simp only [he9.eq, true_and, and_true]) <;> omega) (by (try simp only [he9.eq, true_and, and_true]) <;> omega) (Nat.lt_succ_self _)
  refine J.mask [true, true, true, true, true, false, false, false] ?_
  exact L3 _ _ y0 fs_a0 v22 F42 hW he ha0 hb_rb hkp hO_a0 hF_v22 hF_rb ha_F42 (by (try simp only [he0.eq, true_and, and_true]) <;> omega) (by (try simp only [he0.eq, true_and, and_true]) <;> omega) (Nat.lt_succ_self _)
set_option maxRecDepth 100000 in
set_option maxHeartbeats 8000000 in
theorem w_X7_reach {tS : jTS} (d : Nat) (V0 : jH) (a0 : Nat) (x1 : Int32) (x2 : Int32) (hd : 3 ≤ d) (hW : WT V0) (ha0 : jis V0 (.inr 5) a0) : jTot tS mX7_reach d [.ref a0, .int x1, .int x2] V0 0 0 (fun r V => (jPost [.inr 5, .inl 17, .inl 18, .inl 19, .inl 20, .inl 42, .inl 29, .inl 28] V0 (fun r _ => ∃ y : Int32, r = some (.int y) ∧ ((-2147483648) ≤ y.toInt) ∧ (y.toInt ≤ 2147483647))) r V ∧ jkc 5 [0, 23, 24, 26, 27, 28] V0 V) := by
  refine jTot.of_J [some (.ref a0), some (.int x1), some (.int x2), none, none] moX7_reach (Nat.le_of_ble_eq_true rfl) rfl ?_
  have hrx1 := j_rng x1
  have hrx2 := j_rng x2
  have he : jeff [.inr 5, .inl 17, .inl 18, .inl 19, .inl 20, .inl 42, .inl 29, .inl 28] V0 V0 := jeff.refl _ _
  have hkp : jkc 5 [0, 23, 24, 26, 27, 28] V0 V0 := jkc.rf
  refine J_iload_n dX7_reach_0 rfl ?_
  refine J_callS1 moX7_isGround jw_ml_X7_184 jw_st_X7_isGround dX7_reach_1 (w_X7_isGround (d - 1) _ x1 (by omega)   ) (by omega) (Nat.zero_le _) (Nat.zero_le _) (Nat.le_of_ble_eq_true rfl) (fun r1 V1 h1 => ?_)
  obtain ⟨⟨y1, rfl, hl1, hh1, hI1_0⟩, hE1⟩ := h1
  have hE1 := hE1.symm
  subst hE1
  refine Jz_if_eq (tgt := 22) jEq.rf dX7_reach_4 (by decide) (fun c4 => ?_) (fun c4 => ?_)
  · refine Jz_bipush (-2) dX7_reach_22 (by decide) (fun y22 he22 => ?_)
    exact J_ret (r := some (.int _)) dX7_reach_24 ⟨rfl, _, rfl, rfl⟩ (⟨⟨hW, he, ⟨_, rfl, (j_rng _).1, (j_rng _).2⟩⟩, hkp⟩)
  · have q4_0 := hI1_0.of (by omega)
    refine J_iload_n dX7_reach_7 rfl ?_
    refine Jz_iconst 2 dX7_reach_8 (by decide) (fun y8 he8 => ?_)
    refine Jz_icmp_eq (tgt := 22) jEq.rf he8 dX7_reach_9 (by decide) (fun c9 => ?_) (fun c9 => ?_)
    · refine Jz_bipush (-2) dX7_reach_22 (by decide) (fun y22 he22 => ?_)
      exact J_ret (r := some (.int _)) dX7_reach_24 ⟨rfl, _, rfl, rfl⟩ (⟨⟨hW, he, ⟨_, rfl, (j_rng _).1, (j_rng _).2⟩⟩, hkp⟩)
    · refine J_iload_n dX7_reach_12 rfl ?_
      refine Jz_iconst 1 dX7_reach_13 (by decide) (fun y13 he13 => ?_)
      refine Jz_bipush 6 dX7_reach_14 (by decide) (fun y14 he14 => ?_)
      refine J_callS3 moX7_in jw_ml_X7_105 jw_st_X7_in dX7_reach_16 (w_X7_in (d - 1) _ x2 y13 y14 (by omega)   ) (by omega) (Nat.zero_le _) (Nat.zero_le _) (Nat.le_of_ble_eq_true rfl) (fun r16 V16 h16 => ?_)
      obtain ⟨⟨y16, rfl, hl16, hh16, hI16_0, hI16_1⟩, hE16⟩ := h16
      have hE16 := hE16.symm
      subst hE16
      refine Jz_if_ne (tgt := 25) jEq.rf dX7_reach_19 (by decide) (fun c19 => ?_) (fun c19 => ?_)
      · have q19_0 := hI16_0.of (by omega)
        try simp only [he13.eq, he14.eq] at q19_0
        refine J_iload_n dX7_reach_25 rfl ?_
        refine J_callS1 moX7_directions jw_ml_X7_133 jw_st_X7_directions dX7_reach_26 (w_X7_directions (d - 1) _ x1 (by omega)   ) (by omega) (Nat.zero_le _) (Nat.zero_le _) (Nat.le_of_ble_eq_true rfl) (fun r26 V26 h26 => ?_)
        obtain ⟨⟨y26, rfl, hl26, hh26, hP26_0⟩, hE26⟩ := h26
        have hE26 := hE26.symm
        subst hE26
        have hz26 : jEq y26.toInt (jdir (x1.toInt)) := hP26_0
        simp only [hP26_0] at hl26 hh26
        clear hP26_0
        refine J_iload_n dX7_reach_29 rfl ?_
        refine J_callS2 moX7_power jw_ml_X7_195 jw_st_X7_power dX7_reach_30 (w_X7_power (d - 1) _ y26 x2 (by omega)   (by (try simp only [hz26.eq, true_and, and_true]) <;> omega) (by (try simp only [hz26.eq, true_and, and_true]) <;> omega) (by omega) (by omega)) (by omega) (Nat.zero_le _) (Nat.zero_le _) (Nat.le_of_ble_eq_true rfl) (fun r30 V30 h30 => ?_)
        obtain ⟨⟨y30, rfl, hl30, hh30, hP30_0⟩, hE30⟩ := h30
        have hE30 := hE30.symm
        subst hE30
        clear hl30 hh30
        try simp only [hz26.eq] at hP30_0
        have hz30 : jEq y30.toInt (jpw (jdir (x1.toInt)) (x2.toInt).toNat) := hP30_0
        clear hP30_0
        refine J_istore_n dX7_reach_33 rfl (by decide) ?_
        refine J_iload_n dX7_reach_34 rfl ?_
        refine Jz_sipush 10000 dX7_reach_35 (by decide) (fun y35 he35 => ?_)
        refine Jz_icmp_le (tgt := 44) hz30 he35 dX7_reach_38 (by decide) (fun c38 => ?_) (fun c38 => ?_)
        · have hjd := jdir_cases x1.toInt
          have hpp := jpw_pos (d := jdir x1.toInt) (by omega) x2.toInt.toNat
          obtain ⟨NN, hN⟩ : ∃ NN : Nat, (NN : Int) = jpw (jdir x1.toInt) x2.toInt.toNat := ⟨(jpw (jdir x1.toInt) x2.toInt.toNat).toNat, by omega⟩
          refine J_aload_n dX7_reach_44 rfl ?_
          obtain ⟨fs45, hO45, hK45⟩ := WT_obj hW id ha0
          obtain ⟨w45, hF45, b45, rfl, hb45⟩ := hK45.2 19 (.inr (some (.inl 28))) rfl
          refine J_get jf_X7_64 dX7_reach_45 hO45 hF45 ?_
          refine Jz_bipush 7 dX7_reach_48 (by decide) (fun y48 he48 => ?_)
          refine J_iload_n dX7_reach_50 rfl ?_
          refine Jz_imul he48 jEq.rf dX7_reach_51 (by omega) (by omega) (fun y51 he51 => ?_)
          refine J_iload_n dX7_reach_52 rfl ?_
          refine Jz_iadd he51 jEq.rf dX7_reach_53 (by omega) (by omega) (fun y53 he53 => ?_)
          obtain ⟨n54, f54, hA54, hN54, hM54, hv54⟩ := WT_arrI (r := (-2147483648, 2147483647)) hW id rfl hb45
          obtain rfl := hM54 28 rfl
          clear hN54 hM54
          refine Jz_ialdw he53 dX7_reach_54 hA54 rfl (by omega) (by omega) (fun y54 => ?_)
          refine Jz_if_ne (tgt := 137) jEq.rf dX7_reach_55 (by decide) (fun c55 => ?_) (fun c55 => ?_)
          · refine J_aload_n dX7_reach_137 rfl ?_
            refine J_get jf_X7_64 dX7_reach_138 hO45 hF45 ?_
            refine Jz_bipush 7 dX7_reach_141 (by decide) (fun y141 he141 => ?_)
            refine J_iload_n dX7_reach_143 rfl ?_
            refine Jz_imul he141 jEq.rf dX7_reach_144 (by omega) (by omega) (fun y144 he144 => ?_)
            refine J_iload_n dX7_reach_145 rfl ?_
            refine Jz_iadd he144 jEq.rf dX7_reach_146 (by omega) (by omega) (fun y146 he146 => ?_)
            refine Jz_ialdw he146 dX7_reach_147 hA54 rfl (by omega) (by omega) (fun y147 => ?_)
            exact J_ret (r := some (.int _)) dX7_reach_148 ⟨rfl, _, rfl, rfl⟩ (⟨⟨hW, he, ⟨_, rfl, (j_rng _).1, (j_rng _).2⟩⟩, hkp⟩)
          · refine Jz_iconst 0 dX7_reach_58 (by decide) (fun y58 he58 => ?_)
            refine J_istore dX7_reach_59 rfl (by decide) ?_
            obtain ⟨w61t20, hF61t20, b61t20, rfl, hb61t20⟩ := hK45.2 20 (.inr (some (.inl 42))) rfl
            obtain ⟨n61tb61t20, f61tb61t20, hA61tb61t20, hN61tb61t20, hM61tb61t20, hv61tb61t20⟩ := WT_arrI (r := (0, 1)) hW id rfl hb61t20
            obtain rfl := hM61tb61t20 10000 rfl
            clear hN61tb61t20 hM61tb61t20
            have L61 : ∀ (N : Nat) (V : jH) (i4n61 : Int32) (F42n61 : Nat → Int32), WT V → jeff [.inr 5, .inl 17, .inl 18, .inl 19, .inl 20, .inl 42, .inl 29, .inl 28] V0 V → (jis V (.inr 5) a0) → (jis V (.inl 28) b45) → (jis V (.inl 42) b61t20) → (jkc 5 [0, 23, 24, 26, 27, 28] V0 V) → (V a0 = some (.inr (5, fs45))) → (jokO V (jFs 5) fs45) → (V b61t20 = some (.inl (42, 10000, .inl F42n61))) → (0 ≤ i4n61.toInt) → (∀ k : Nat, (k : Int) < i4n61.toInt → (F42n61 k).toInt = 0) → (10001 - i4n61.toInt).toNat < N → J tS mX7_reach d 61 [some (.ref a0), some (.int x1), some (.int x2), some (.int y30), some (.int i4n61)] [] V 0 0 (fun r V => (jPost [.inr 5, .inl 17, .inl 18, .inl 19, .inl 20, .inl 42, .inl 29, .inl 28] V0 (fun r _ => ∃ y : Int32, r = some (.int y) ∧ ((-2147483648) ≤ y.toInt) ∧ (y.toInt ≤ 2147483647))) r V ∧ jkc 5 [0, 23, 24, 26, 27, 28] V0 V) := by
              intro N
              induction N with
              | zero => intro V i4n61 F42n61 hW he ha0 hb45 hb61t20 hkp hO45 hK45 hAF42n61 hi4 hz hm; exact absurd hm (Nat.not_lt_zero _)
              | succ N ih =>
                intro V i4n61 F42n61 hW he ha0 hb45 hb61t20 hkp hO45 hK45 hAF42n61 hi4 hz hm
                have ih61 := ih
                have hri4 := j_rng i4n61
                obtain ⟨hNF42n61, hvF42n61⟩ := WT_rngI (r := (0, 1)) hW id rfl hAF42n61
                clear hNF42n61
                refine J_iload dX7_reach_61 rfl ?_
                refine J_iload_n dX7_reach_63 rfl ?_
                refine Jz_icmp_ge (tgt := 81) jEq.rf hz30 dX7_reach_64 (by decide) (fun c64 => ?_) (fun c64 => ?_)
                · refine J_aload_n dX7_reach_81 rfl ?_
                  refine Jz_iconst 0 dX7_reach_82 (by decide) (fun y82 he82 => ?_)
                  refine Jz_putI hO45 hW id rfl jf_X7_205 jt_X7_22 he82 dX7_reach_83 (by omega) (by omega) (fun _ _ => ⟨rfl, rfl⟩) (fun V83 fs83 hW hx83 hO83 hS83 hT83 hB83 => ?_)
                  have hK83 : jokO _ (jFs 5) fs83 := hW _ _ id hO83
                  have hF83_19 := (hT83 19 (by decide)).trans hF45
                  have hF83_20 := (hT83 20 (by decide)).trans hF61t20
                  have he := he.trans (hx83.sub (jsub_of rfl))
                  have hkp := hkp.trans (jkc.put hO45 hO83 hT83 hB83 (by decide))
                  have ha0 := ha0.mono hx83.1
                  have hb45 := hb45.mono hx83.1
                  have hb61t20 := hb61t20.mono hx83.1
                  have hAF42n61 := hx83.2 _ _ hAF42n61 (jnot_of rfl)
                  have hj0 := jcn_zero (c := 0) (F := F42n61) NN (fun k hk => hz k (by omega))
                  refine J_aload_n dX7_reach_86 rfl ?_
                  refine Jz_iconst 0 dX7_reach_87 (by decide) (fun y87 he87 => ?_)
                  refine Jw_callV1 (q9 := (RX7, TX7, 34)) moX7_meets jw_ml_X7_208 jw_im_X7_meets jw_se_X7_meets ha0 rfl rfl dX7_reach_88 (w_X7_meets (d - 1) _ a0 y87 y82 b61t20 NN F42n61 (by omega) hW  ha0 ⟨_, hO83, hS83⟩ ⟨_, hO83, hF83_20⟩ hAF42n61 (by omega) (by rw [he87.eq]; omega) (by rw [he87.eq]; omega) (by rw [he82.eq, hj0]; rfl)) (by omega) (Nat.zero_le _) (Nat.zero_le _) (Nat.le_of_ble_eq_true rfl) (fun r88 V88 h88 => ?_)
                  obtain ⟨h88, hX88_0, hX88_1⟩ := h88
                  obtain ⟨hW, hx88, hr88⟩ := h88
                  have he := he.trans (hx88.sub (jsub_of rfl))
                  have hkp := hkp.trans hX88_1
                  have ha0 := ha0.mono hx88.1
                  have hb45 := hb45.mono hx88.1
                  have hb61t20 := hb61t20.mono hx88.1
                  obtain ⟨fs88a0, hOfs88a0, hRfs88a0⟩ := hx88.1.keep hO83
                  have hKfs88a0 : jokO _ (jFs 5) fs88a0 := hW _ _ id hOfs88a0
                  have hFfs88a0_19 := hRfs88a0 _ _ hF83_19
                  have hFfs88a0_20 := hRfs88a0 _ _ hF83_20
                  cases hr88
                  obtain ⟨G88, v88, hA88, hv88, hc88⟩ := hX88_0
                  have hFv8822 := hv88.get hOfs88a0
                  obtain ⟨hN_G88, hv_G88⟩ := WT_rngI (r := (0, 1)) hW id rfl hA88
                  clear hN_G88
                  refine Jz_iconst 0 dX7_reach_91 (by decide) (fun y91 he91 => ?_)
                  refine J_istore dX7_reach_92 rfl (by decide) ?_
                  have L94 : ∀ (N : Nat) (V : jH) (i4n94 : Int32) (gs94a0 : List Value) (g22n94 : Int32) (F42n94 : Nat → Int32), WT V → jeff [.inr 5, .inl 17, .inl 18, .inl 19, .inl 20, .inl 42, .inl 29, .inl 28] V0 V → (jis V (.inr 5) a0) → (jis V (.inl 28) b45) → (jis V (.inl 42) b61t20) → (jkc 5 [0, 23, 24, 26, 27, 28] V0 V) → (V a0 = some (.inr (5, gs94a0))) → (gs94a0[19]? = some (.ref b45)) → (gs94a0[20]? = some (.ref b61t20)) → (gs94a0[22]? = some (.int g22n94)) → (V b61t20 = some (.inl (42, 10000, .inl F42n94))) → (0 ≤ i4n94.toInt) → (g22n94.toInt = (jcn 0 F42n94 NN : Int)) → (10001 - i4n94.toInt).toNat < N → J tS mX7_reach d 94 [some (.ref a0), some (.int x1), some (.int x2), some (.int y30), some (.int i4n94)] [] V 0 0 (fun r V => (jPost [.inr 5, .inl 17, .inl 18, .inl 19, .inl 20, .inl 42, .inl 29, .inl 28] V0 (fun r _ => ∃ y : Int32, r = some (.int y) ∧ ((-2147483648) ≤ y.toInt) ∧ (y.toInt ≤ 2147483647))) r V ∧ jkc 5 [0, 23, 24, 26, 27, 28] V0 V) := by
                    intro N
                    induction N with
                    | zero => intro V i4n94 gs94a0 g22n94 F42n94 hW he ha0 hb45 hb61t20 hkp hOgs94a0 hFgs94a0_19 hFgs94a0_20 hFgs94a0_22 hAF42n94 hi4 hq4 hm; exact absurd hm (Nat.not_lt_zero _)
                    | succ N ih =>
                      intro V i4n94 gs94a0 g22n94 F42n94 hW he ha0 hb45 hb61t20 hkp hOgs94a0 hFgs94a0_19 hFgs94a0_20 hFgs94a0_22 hAF42n94 hi4 hq4 hm
                      have ih94 := ih
                      have hri4 := j_rng i4n94
                      have hKgs94a0 : jokO V (jFs 5) gs94a0 := hW _ _ id hOgs94a0
                      have hrgg22n94 : (-2147483648) ≤ g22n94.toInt ∧ g22n94.toInt ≤ 2147483647 := jok_rngI hKgs94a0 rfl hFgs94a0_22
                      obtain ⟨hNF42n94, hvF42n94⟩ := WT_rngI (r := (0, 1)) hW id rfl hAF42n94
                      clear hNF42n94
                      have hle := jcn_le (c := 0) (F := F42n94) NN
                      refine J_iload dX7_reach_94 rfl ?_
                      refine J_aload_n dX7_reach_96 rfl ?_
                      refine J_get jf_X7_205 dX7_reach_97 hOgs94a0 hFgs94a0_22 ?_
                      refine Jz_icmp_ge (tgt := 122) jEq.rf jEq.rf dX7_reach_100 (by decide) (fun c100 => ?_) (fun c100 => ?_)
                      · refine J_aload_n dX7_reach_122 rfl ?_
                        refine J_get jf_X7_64 dX7_reach_123 hOgs94a0 hFgs94a0_19 ?_
                        refine Jz_bipush 7 dX7_reach_126 (by decide) (fun y126 he126 => ?_)
                        refine J_iload_n dX7_reach_128 rfl ?_
                        refine Jz_imul he126 jEq.rf dX7_reach_129 (by omega) (by omega) (fun y129 he129 => ?_)
                        refine J_iload_n dX7_reach_130 rfl ?_
                        refine Jz_iadd he129 jEq.rf dX7_reach_131 (by omega) (by omega) (fun y131 he131 => ?_)
                        refine J_aload_n dX7_reach_132 rfl ?_
                        refine J_get jf_X7_205 dX7_reach_133 hOgs94a0 hFgs94a0_22 ?_
                        obtain ⟨n136, f136, hA136, hN136, hM136, hv136⟩ := WT_arrI (r := (-2147483648, 2147483647)) hW id rfl hb45
                        obtain rfl := hM136 28 rfl
                        clear hN136 hM136
                        refine Jz_iastw (r := ((-2147483648), 2147483647)) he131 jEq.rf hW id dX7_reach_136 hA136 rfl rfl (by omega) (by omega) (j_rng _).1 (j_rng _).2 (fun V136 hW hx136 => ?_)
                        have he := he.trans (hx136.sub (jsub_of rfl))
                        have hkp := hkp.trans (jkc.of hx136 (jnot_of rfl))
                        have ha0 := ha0.mono hx136.1
                        have hb45 := hb45.mono hx136.1
                        have hb61t20 := hb61t20.mono hx136.1
                        have hOgs94a0 := hx136.2 _ _ hOgs94a0 (jnot_of rfl)
                        have hKgs94a0 := hKgs94a0.mono hx136.1
                        have hAF42n94 := hx136.2 _ _ hAF42n94 (jnot_of rfl)
                        refine J_aload_n dX7_reach_137 rfl ?_
                        refine J_get jf_X7_64 dX7_reach_138 hOgs94a0 hFgs94a0_19 ?_
                        refine Jz_bipush 7 dX7_reach_141 (by decide) (fun y141 he141 => ?_)
                        refine J_iload_n dX7_reach_143 rfl ?_
                        refine Jz_imul he141 jEq.rf dX7_reach_144 (by omega) (by omega) (fun y144 he144 => ?_)
                        refine J_iload_n dX7_reach_145 rfl ?_
                        refine Jz_iadd he144 jEq.rf dX7_reach_146 (by omega) (by omega) (fun y146 he146 => ?_)
                        obtain ⟨n147, f147, hA147, hN147, hM147, hv147⟩ := WT_arrI (r := (-2147483648, 2147483647)) hW id rfl hb45
                        obtain rfl := hM147 28 rfl
                        clear hN147 hM147
                        refine Jz_ialdw he146 dX7_reach_147 hA147 rfl (by omega) (by omega) (fun y147 => ?_)
                        exact J_ret (r := some (.int _)) dX7_reach_148 ⟨rfl, _, rfl, rfl⟩ (⟨⟨hW, he, ⟨_, rfl, (j_rng _).1, (j_rng _).2⟩⟩, hkp⟩)
                      · refine J_aload_n dX7_reach_103 rfl ?_
                        refine J_iload_n dX7_reach_104 rfl ?_
                        refine J_iload_n dX7_reach_105 rfl ?_
                        refine J_aload_n dX7_reach_106 rfl ?_
                        obtain ⟨w107, hF107, b107, rfl, hb107⟩ := hKgs94a0.2 21 (.inr (some (.inl 29))) rfl
                        refine J_get jf_X7_70 dX7_reach_107 hOgs94a0 hF107 ?_
                        refine J_iload dX7_reach_110 rfl ?_
                        obtain ⟨n112, f112, hA112, hN112, hM112, hv112⟩ := WT_arrI (r := (0, 9999)) hW id rfl hb107
                        obtain rfl := hM112 10000 rfl
                        clear hN112 hM112
                        refine Jz_ialdr (r := (0, 9999)) jEq.rf dX7_reach_112 hA112 rfl hv112 (by omega) (by omega) (fun y112 hl112 hh112 => ?_)
                        dsimp only at hl112 hh112
                        refine Jw_callV3 (q9 := (RX7, TX7, 34)) moX7_turnsAll jw_ml_X7_211 jw_im_X7_turnsAll jw_se_X7_turnsAll ha0 rfl rfl dX7_reach_113 (w_X7_turnsAll (d - 1) _ a0 x1 x2 y112 g22n94 b61t20 NN F42n94 (by omega) hW  ha0 ⟨_, hOgs94a0, hFgs94a0_22⟩ ⟨_, hOgs94a0, hFgs94a0_20⟩ hAF42n94 (by omega) (by omega) (by omega) (by omega) (by omega) (by omega) hN hq4) (by omega) (Nat.zero_le _) (Nat.zero_le _) (Nat.le_of_ble_eq_true rfl) (fun r113 V113 h113 => ?_)
                        obtain ⟨h113, hX113_0, hX113_1⟩ := h113
                        obtain ⟨hW, hx113, hr113⟩ := h113
                        have he := he.trans (hx113.sub (jsub_of rfl))
                        have hkp := hkp.trans hX113_1
                        have ha0 := ha0.mono hx113.1
                        have hb45 := hb45.mono hx113.1
                        have hb61t20 := hb61t20.mono hx113.1
                        have hb107 := hb107.mono hx113.1
                        obtain ⟨fs113a0, hOfs113a0, hRfs113a0⟩ := hx113.1.keep hOgs94a0
                        have hKfs113a0 : jokO _ (jFs 5) fs113a0 := hW _ _ id hOfs113a0
                        have hFfs113a0_19 := hRfs113a0 _ _ hFgs94a0_19
                        have hFfs113a0_20 := hRfs113a0 _ _ hFgs94a0_20
                        have hFfs113a0_21 := hRfs113a0 _ _ hF107
                        cases hr113
                        obtain ⟨G113, v113, hA113, hv113, hc113⟩ := hX113_0
                        have hFv11322 := hv113.get hOfs113a0
                        obtain ⟨hN_G113, hv_G113⟩ := WT_rngI (r := (0, 1)) hW id rfl hA113
                        clear hN_G113
                        refine Jz_iinc 1 dX7_reach_116 rfl rfl (by decide) jEq.rf (by decide) (by omega) (by omega) (fun y116 he116 => ?_)
                        refine J_goto (tgt := 94) dX7_reach_119 (by decide) ?_
                        refine J.mask [true, true, true, true, true] ?_
                        exact ih94 _ y116 fs113a0 v113 G113 hW he ha0 hb45 hb61t20 hkp hOfs113a0 hFfs113a0_19 hFfs113a0_20 hFv11322 hA113 (by (try simp only [he116.eq, true_and, and_true]) <;> omega) (by (try simp only [he116.eq, true_and, and_true]) <;> omega) (by (try simp only [he116.eq, true_and, and_true]) <;> omega)
                  refine J.mask [true, true, true, true, true] ?_
                  exact L94 _ _ y91 fs88a0 v88 G88 hW he ha0 hb45 hb61t20 hkp hOfs88a0 hFfs88a0_19 hFfs88a0_20 hFv8822 hA88 (by (try simp only [he91.eq, true_and, and_true]) <;> omega) (by (try simp only [he91.eq, true_and, and_true]) <;> omega) (Nat.lt_succ_self _)
                · refine J_aload_n dX7_reach_67 rfl ?_
                  refine J_get jf_X7_67 dX7_reach_68 hO45 hF61t20 ?_
                  refine J_iload dX7_reach_71 rfl ?_
                  refine Jz_iconst 0 dX7_reach_73 (by decide) (fun y73 he73 => ?_)
                  refine Jz_zast (r := (0, 1)) jEq.rf he73 hW id dX7_reach_74 hAF42n61 rfl rfl (by omega) (by omega) (by omega) (by omega) (fun _ h => vp_nar_b (by omega) (by omega)) (fun V74 G74 hW hx74 hA74 hp74 ho74 => ?_)
                  obtain ⟨hN74, hv74⟩ := WT_rngI (r := (0, 1)) hW id rfl hA74
                  clear hN74
                  have he := he.trans (hx74.sub (jsub_of rfl))
                  have hkp := hkp.trans (jkc.of hx74 (jnot_of rfl))
                  have ha0 := ha0.mono hx74.1
                  have hb45 := hb45.mono hx74.1
                  have hb61t20 := hb61t20.mono hx74.1
                  have hO45 := hx74.2 _ _ hO45 (jnot_of rfl)
                  have hK45 := hK45.mono hx74.1
                  refine Jz_iinc 1 dX7_reach_75 rfl rfl (by decide) jEq.rf (by decide) (by omega) (by omega) (fun y75 he75 => ?_)
                  refine J_goto (tgt := 61) dX7_reach_78 (by decide) ?_
                  refine J.mask [true, true, true, true, true] ?_
                  exact ih61 _ y75 G74 hW he ha0 hb45 hb61t20 hkp hO45 hK45 hA74 (by (try simp only [he75.eq, true_and, and_true]) <;> omega) (fun k hk => by rw [he75.eq] at hk; exact (Nat.decEq k i4n61.toInt.toNat).byCases (fun hq => by rw [hq, hp74, he73.eq]) (fun hq => by rw [ho74 k hq]; exact hz k (by omega))) (by (try simp only [he75.eq, true_and, and_true]) <;> omega)
            refine J.mask [true, true, true, true, true] ?_
            exact L61 _ _ y58 f61tb61t20 hW he ha0 hb45 hb61t20 hkp hO45 hK45 hA61tb61t20 (by (try simp only [he58.eq, true_and, and_true]) <;> omega) (fun k hk => by rw [he58.eq] at hk; omega) (Nat.lt_succ_self _)
        · refine Jz_bipush (-5) dX7_reach_41 (by decide) (fun y41 he41 => ?_)
          exact J_ret (r := some (.int _)) dX7_reach_43 ⟨rfl, _, rfl, rfl⟩ (⟨⟨hW, he, ⟨_, rfl, (j_rng _).1, (j_rng _).2⟩⟩, hkp⟩)
      · have q19_1 := hI16_1.of (by omega)
        try simp only [he13.eq, he14.eq] at q19_1
        refine Jz_bipush (-2) dX7_reach_22 (by decide) (fun y22 he22 => ?_)
        exact J_ret (r := some (.int _)) dX7_reach_24 ⟨rfl, _, rfl, rfl⟩ (⟨⟨hW, he, ⟨_, rfl, (j_rng _).1, (j_rng _).2⟩⟩, hkp⟩)
set_option maxRecDepth 100000 in
set_option maxHeartbeats 8000000 in
theorem w_X7_shortest {tS : jTS} (d : Nat) (V0 : jH) (a0 : Nat) (hd : 2 ≤ d) (hW : WT V0) (ha0 : jis V0 (.inr 5) a0) : jTot tS mX7_shortest d [.ref a0] V0 0 0 (fun r V => (jPost [.inr 5, .inl 33, .inl 29] V0 (fun r _ => ∃ y : Int32, r = some (.int y) ∧ ((-2147483648) ≤ y.toInt) ∧ (y.toInt ≤ 2147483647))) r V ∧ jkc 5 [0, 23, 24, 26, 27, 28] V0 V) := by
  refine jTot.of_J [some (.ref a0), none, none, none] moX7_shortest (Nat.le_of_ble_eq_true rfl) rfl ?_
  have he : jeff [.inr 5, .inl 33, .inl 29] V0 V0 := jeff.refl _ _
  have hkp : jkc 5 [0, 23, 24, 26, 27, 28] V0 V0 := jkc.rf
  refine Jz_iconst 0 dX7_shortest_0 (by decide) (fun y0 he0 => ?_)
  refine J_istore_n dX7_shortest_1 rfl (by decide) ?_
  obtain ⟨fs2t33, hO2t33, hK2t33⟩ := WT_obj hW id ha0
  obtain ⟨w2t33, hF2t33, b2t33, rfl, hb2t33⟩ := hK2t33.2 33 (.inr (some (.inl 33))) rfl
  obtain ⟨n2tb2t33, f2tb2t33, hA2tb2t33, hN2tb2t33, hM2tb2t33, hv2tb2t33⟩ := WT_arrI (r := (-1, 35)) hW id rfl hb2t33
  obtain rfl := hM2tb2t33 36 rfl
  clear hN2tb2t33 hM2tb2t33
  have L2 : ∀ (N : Nat) (V : jH) (i1n2 : Int32) (F33n2 : Nat → Int32), WT V → jeff [.inr 5, .inl 33, .inl 29] V0 V → (jis V (.inr 5) a0) → (jis V (.inl 33) b2t33) → (jkc 5 [0, 23, 24, 26, 27, 28] V0 V) → (V a0 = some (.inr (5, fs2t33))) → (jokO V (jFs 5) fs2t33) → (V b2t33 = some (.inl (33, 36, .inl F33n2))) → (0 ≤ i1n2.toInt) → (∀ k : Nat, (k : Int) < i1n2.toInt → (k = 0 → (F33n2 k).toInt = 0) ∧ (¬ k = 0 → (F33n2 k).toInt = -1)) → (300 - i1n2.toInt).toNat < N → J tS mX7_shortest d 2 [some (.ref a0), some (.int i1n2), none, none] [] V 0 0 (fun r V => (jPost [.inr 5, .inl 33, .inl 29] V0 (fun r _ => ∃ y : Int32, r = some (.int y) ∧ ((-2147483648) ≤ y.toInt) ∧ (y.toInt ≤ 2147483647))) r V ∧ jkc 5 [0, 23, 24, 26, 27, 28] V0 V) := by
    intro N
    induction N with
    | zero => intro V i1n2 F33n2 hW he ha0 hb2t33 hkp hO2t33 hK2t33 hAF33n2 hi1 hz hm; exact absurd hm (Nat.not_lt_zero _)
    | succ N ih =>
      intro V i1n2 F33n2 hW he ha0 hb2t33 hkp hO2t33 hK2t33 hAF33n2 hi1 hz hm
      have ih2 := ih
      have hri1 := j_rng i1n2
      obtain ⟨hNF33n2, hvF33n2⟩ := WT_rngI (r := ((-1), 35)) hW id rfl hAF33n2
      clear hNF33n2
      refine J_iload_n dX7_shortest_2 rfl ?_
      refine Jz_bipush 36 dX7_shortest_3 (by decide) (fun y3 he3 => ?_)
      refine Jz_icmp_ge (tgt := 29) jEq.rf he3 dX7_shortest_5 (by decide) (fun c5 => ?_) (fun c5 => ?_)
      · refine J_aload_n dX7_shortest_29 rfl ?_
        refine Jz_iconst 1 dX7_shortest_30 (by decide) (fun y30 he30 => ?_)
        refine Jz_putI hO2t33 hW id rfl jf_X7_205 jt_X7_22 he30 dX7_shortest_31 (by omega) (by omega) (fun _ _ => ⟨rfl, rfl⟩) (fun V31 fs31 hW hx31 hO31 hS31 hT31 hB31 => ?_)
        have hK31 : jokO _ (jFs 5) fs31 := hW _ _ id hO31
        have hF31_33 := (hT31 33 (by decide)).trans hF2t33
        have he := he.trans (hx31.sub (jsub_of rfl))
        have hkp := hkp.trans (jkc.put hO2t33 hO31 hT31 hB31 (by decide))
        have ha0 := ha0.mono hx31.1
        have hb2t33 := hb2t33.mono hx31.1
        have hAF33n2 := hx31.2 _ _ hAF33n2 (jnot_of rfl)
        refine J_aload_n dX7_shortest_34 rfl ?_
        obtain ⟨w35, hF35, b35, rfl, hb35⟩ := hK31.2 21 (.inr (some (.inl 29))) rfl
        refine J_get jf_X7_70 dX7_shortest_35 hO31 hF35 ?_
        refine Jz_iconst 0 dX7_shortest_38 (by decide) (fun y38 he38 => ?_)
        refine Jz_iconst 0 dX7_shortest_39 (by decide) (fun y39 he39 => ?_)
        obtain ⟨n40, f40, hA40, hN40, hM40, hv40⟩ := WT_arrI (r := (0, 9999)) hW id rfl hb35
        obtain rfl := hM40 10000 rfl
        clear hN40 hM40
        refine Jz_iast (r := (0, 9999)) he38 he39 hW id dX7_shortest_40 hA40 rfl rfl (by omega) (by omega) (by omega) (by omega) (fun V40 G40 hW hx40 hA40 hp40 ho40 => ?_)
        obtain ⟨hN40, hv40⟩ := WT_rngI (r := (0, 9999)) hW id rfl hA40
        clear hN40
        have he := he.trans (hx40.sub (jsub_of rfl))
        have hkp := hkp.trans (jkc.of hx40 (jnot_of rfl))
        have ha0 := ha0.mono hx40.1
        have hb2t33 := hb2t33.mono hx40.1
        have hb35 := hb35.mono hx40.1
        have hO31 := hx40.2 _ _ hO31 (jnot_of rfl)
        have hK31 := hK31.mono hx40.1
        have hAF33n2 := hx40.2 _ _ hAF33n2 (jnot_of rfl)
        refine Jz_iconst 0 dX7_shortest_41 (by decide) (fun y41 he41 => ?_)
        refine J_istore_n dX7_shortest_42 rfl (by decide) ?_
        have L43 : ∀ (N : Nat) (V : jH) (i1n43 : Int32) (gs43a0 : List Value) (g22n43 : Int32) (F33n43 : Nat → Int32) (F29n43 : Nat → Int32), WT V → jeff [.inr 5, .inl 33, .inl 29] V0 V → (jis V (.inr 5) a0) → (jis V (.inl 33) b2t33) → (jis V (.inl 29) b35) → (jkc 5 [0, 23, 24, 26, 27, 28] V0 V) → (V a0 = some (.inr (5, gs43a0))) → (gs43a0[22]? = some (.int g22n43)) → (gs43a0[33]? = some (.ref b2t33)) → (gs43a0[21]? = some (.ref b35)) → (V b2t33 = some (.inl (33, 36, .inl F33n43))) → (V b35 = some (.inl (29, 10000, .inl F29n43))) → (0 ≤ i1n43.toInt) → ((jcn (-1) F33n43 36 : Int) = g22n43.toInt) → (∀ j : Nat, (j : Int) < g22n43.toInt → 0 ≤ (F29n43 j).toInt ∧ (F29n43 j).toInt ≤ 35 ∧ 0 ≤ (F33n43 (F29n43 j).toInt.toNat).toInt ∧ (F33n43 (F29n43 j).toInt.toNat).toInt ≤ (j : Int)) → (300 - i1n43.toInt).toNat < N → J tS mX7_shortest d 43 [some (.ref a0), some (.int i1n43), none, none] [] V 0 0 (fun r V => (jPost [.inr 5, .inl 33, .inl 29] V0 (fun r _ => ∃ y : Int32, r = some (.int y) ∧ ((-2147483648) ≤ y.toInt) ∧ (y.toInt ≤ 2147483647))) r V ∧ jkc 5 [0, 23, 24, 26, 27, 28] V0 V) := by
          intro N
          induction N with
          | zero => intro V i1n43 gs43a0 g22n43 F33n43 F29n43 hW he ha0 hb2t33 hb35 hkp hOgs43a0 hFgs43a0_22 hFgs43a0_33 hFgs43a0_21 hAF33n43 hAF29n43 hk hcnt hque hm; exact absurd hm (Nat.not_lt_zero _)
          | succ N ih =>
            intro V i1n43 gs43a0 g22n43 F33n43 F29n43 hW he ha0 hb2t33 hb35 hkp hOgs43a0 hFgs43a0_22 hFgs43a0_33 hFgs43a0_21 hAF33n43 hAF29n43 hk hcnt hque hm
            have ih43 := ih
            have hri1 := j_rng i1n43
            have hKgs43a0 : jokO V (jFs 5) gs43a0 := hW _ _ id hOgs43a0
            have hrgg22n43 : (-2147483648) ≤ g22n43.toInt ∧ g22n43.toInt ≤ 2147483647 := jok_rngI hKgs43a0 rfl hFgs43a0_22
            obtain ⟨hNF33n43, hvF33n43⟩ := WT_rngI (r := ((-1), 35)) hW id rfl hAF33n43
            clear hNF33n43
            obtain ⟨hNF29n43, hvF29n43⟩ := WT_rngI (r := (0, 9999)) hW id rfl hAF29n43
            clear hNF29n43
            have hle := jcn_le (c := -1) (F := F33n43) 36
            refine J_iload_n dX7_shortest_43 rfl ?_
            refine J_aload_n dX7_shortest_44 rfl ?_
            refine J_get jf_X7_205 dX7_shortest_45 hOgs43a0 hFgs43a0_22 ?_
            refine Jz_icmp_ge (tgt := 136) jEq.rf jEq.rf dX7_shortest_48 (by decide) (fun c48 => ?_) (fun c48 => ?_)
            · refine J_aload_n dX7_shortest_136 rfl ?_
              refine J_get jf_X7_95 dX7_shortest_137 hOgs43a0 hFgs43a0_33 ?_
              refine J_aload_n dX7_shortest_140 rfl ?_
              obtain ⟨w141, hF141, y141, rfl, hl141, hh141⟩ := hKgs43a0.2 23 (.inl (2, 6)) rfl
              dsimp only at hl141 hh141
              refine J_get jf_X7_73 dX7_shortest_141 hOgs43a0 hF141 ?_
              refine J_aload_n dX7_shortest_144 rfl ?_
              obtain ⟨w145, hF145, y145, rfl, hl145, hh145⟩ := hKgs43a0.2 24 (.inl (2, 6)) rfl
              dsimp only at hl145 hh145
              refine J_get jf_X7_77 dX7_shortest_145 hOgs43a0 hF145 ?_
              refine Jz_imulM 6 jEq.rf jEq.rf dX7_shortest_148 (by omega) (by omega) (by omega) (by omega) (fun y148 he148 hf148 => ?_)
              refine Jz_iconst 1 dX7_shortest_149 (by decide) (fun y149 he149 => ?_)
              refine Jz_isub jEq.rf he149 dX7_shortest_150 (by omega) (by omega) (fun y150 he150 => ?_)
              refine Jz_iald (r := ((-1), 35)) he150 dX7_shortest_151 hAF33n43 rfl hvF33n43 (by omega) (by omega) (fun y151 hf151 hl151 hh151 => ?_)
              dsimp only at hl151 hh151
              exact J_ret (r := some (.int _)) dX7_shortest_152 ⟨rfl, _, rfl, rfl⟩ (⟨⟨hW, he, ⟨_, rfl, (j_rng _).1, (j_rng _).2⟩⟩, hkp⟩)
            · refine Jz_iconst 0 dX7_shortest_51 (by decide) (fun y51 he51 => ?_)
              refine J_istore_n dX7_shortest_52 rfl (by decide) ?_
              have L53 : ∀ (N : Nat) (V : jH) (i2n53 : Int32) (gs53a0 : List Value) (g22n53 : Int32) (F33n53 : Nat → Int32) (F29n53 : Nat → Int32), WT V → jeff [.inr 5, .inl 33, .inl 29] V0 V → (jis V (.inr 5) a0) → (jis V (.inl 33) b2t33) → (jis V (.inl 29) b35) → (jkc 5 [0, 23, 24, 26, 27, 28] V0 V) → (V a0 = some (.inr (5, gs53a0))) → (gs53a0[22]? = some (.int g22n53)) → (gs53a0[33]? = some (.ref b2t33)) → (gs53a0[21]? = some (.ref b35)) → (V b2t33 = some (.inl (33, 36, .inl F33n53))) → (V b35 = some (.inl (29, 10000, .inl F29n53))) → (0 ≤ i2n53.toInt) → (i1n43.toInt < g22n53.toInt) → ((jcn (-1) F33n53 36 : Int) = g22n53.toInt) → (∀ j : Nat, (j : Int) < g22n53.toInt → 0 ≤ (F29n53 j).toInt ∧ (F29n53 j).toInt ≤ 35 ∧ 0 ≤ (F33n53 (F29n53 j).toInt.toNat).toInt ∧ (F33n53 (F29n53 j).toInt.toNat).toInt ≤ (j : Int)) → (300 - i2n53.toInt).toNat < N → J tS mX7_shortest d 53 [some (.ref a0), some (.int i1n43), some (.int i2n53), none] [] V 0 0 (fun r V => (jPost [.inr 5, .inl 33, .inl 29] V0 (fun r _ => ∃ y : Int32, r = some (.int y) ∧ ((-2147483648) ≤ y.toInt) ∧ (y.toInt ≤ 2147483647))) r V ∧ jkc 5 [0, 23, 24, 26, 27, 28] V0 V) := by
                intro N
                induction N with
                | zero => intro V i2n53 gs53a0 g22n53 F33n53 F29n53 hW he ha0 hb2t33 hb35 hkp hOgs53a0 hFgs53a0_22 hFgs53a0_33 hFgs53a0_21 hAF33n53 hAF29n53 hd hkq hcntb hqueb hm; exact absurd hm (Nat.not_lt_zero _)
                | succ N ih =>
                  intro V i2n53 gs53a0 g22n53 F33n53 F29n53 hW he ha0 hb2t33 hb35 hkp hOgs53a0 hFgs53a0_22 hFgs53a0_33 hFgs53a0_21 hAF33n53 hAF29n53 hd hkq hcntb hqueb hm
                  have ih53 := ih
                  have hri2 := j_rng i2n53
                  have hKgs53a0 : jokO V (jFs 5) gs53a0 := hW _ _ id hOgs53a0
                  have hrgg22n53 : (-2147483648) ≤ g22n53.toInt ∧ g22n53.toInt ≤ 2147483647 := jok_rngI hKgs53a0 rfl hFgs53a0_22
                  obtain ⟨hNF33n53, hvF33n53⟩ := WT_rngI (r := ((-1), 35)) hW id rfl hAF33n53
                  clear hNF33n53
                  obtain ⟨hNF29n53, hvF29n53⟩ := WT_rngI (r := (0, 9999)) hW id rfl hAF29n53
                  clear hNF29n53
                  have hle := jcn_le (c := -1) (F := F33n53) 36
                  refine J_iload_n dX7_shortest_53 rfl ?_
                  refine Jz_iconst 4 dX7_shortest_54 (by decide) (fun y54 he54 => ?_)
                  refine Jz_icmp_ge (tgt := 130) jEq.rf he54 dX7_shortest_55 (by decide) (fun c55 => ?_) (fun c55 => ?_)
                  · refine Jz_iinc 1 dX7_shortest_130 rfl rfl (by decide) jEq.rf (by decide) (by omega) (by omega) (fun y130 he130 => ?_)
                    refine J_goto (tgt := 43) dX7_shortest_133 (by decide) ?_
                    refine J.mask [true, true, false, false] ?_
                    exact ih43 _ y130 gs53a0 g22n53 F33n53 F29n53 hW he ha0 hb2t33 hb35 hkp hOgs53a0 hFgs53a0_22 hFgs53a0_33 hFgs53a0_21 hAF33n53 hAF29n53 (by (try simp only [he130.eq, true_and, and_true]) <;> omega) (by (try simp only [he130.eq, true_and, and_true]) <;> omega) hqueb (by (try simp only [he130.eq, true_and, and_true]) <;> omega)
                  · refine J_aload_n dX7_shortest_58 rfl ?_
                    refine J_aload_n dX7_shortest_59 rfl ?_
                    refine J_get jf_X7_70 dX7_shortest_60 hOgs53a0 hFgs53a0_21 ?_
                    refine J_iload_n dX7_shortest_63 rfl ?_
                    refine Jz_iald (r := (0, 9999)) jEq.rf dX7_shortest_64 hAF29n53 rfl hvF29n53 (by omega) (by omega) (fun y64 hf64 hl64 hh64 => ?_)
                    dsimp only at hl64 hh64
                    have hb64 := hqueb i1n43.toInt.toNat (by omega)
                    rw [hf64] at hb64
                    refine J_iload_n dX7_shortest_65 rfl ?_
                    refine Jw_callV2 (q9 := (RX7, TX7, 34)) moX7_next jw_ml_X7_227 jw_im_X7_next jw_se_X7_next ha0 rfl rfl dX7_shortest_66 (w_X7_next (d - 1) _ a0 y64 i2n53 (by omega) hW  ha0) (by omega) (Nat.zero_le _) (Nat.zero_le _) (Nat.le_of_ble_eq_true rfl) (fun r66 V66 h66 => ?_)
                    obtain ⟨⟨y66, rfl, hl66, hh66⟩, hE66⟩ := h66
                    have hE66 := hE66.symm
                    subst hE66
                    refine J_istore_n dX7_shortest_69 rfl (by decide) ?_
                    refine J_iload_n dX7_shortest_70 rfl ?_
                    refine Jz_iconst (-1) dX7_shortest_71 (by decide) (fun y71 he71 => ?_)
                    refine Jz_icmp_eq (tgt := 124) jEq.rf he71 dX7_shortest_72 (by decide) (fun c72 => ?_) (fun c72 => ?_)
                    · refine Jz_iinc 1 dX7_shortest_124 rfl rfl (by decide) jEq.rf (by decide) (by omega) (by omega) (fun y124 he124 => ?_)
                      refine J_goto (tgt := 53) dX7_shortest_127 (by decide) ?_
                      refine J.mask [true, true, true, false] ?_
                      exact ih53 _ y124 gs53a0 g22n53 F33n53 F29n53 hW he ha0 hb2t33 hb35 hkp hOgs53a0 hFgs53a0_22 hFgs53a0_33 hFgs53a0_21 hAF33n53 hAF29n53 (by (try simp only [he124.eq, true_and, and_true]) <;> omega) (by (try simp only [he124.eq, true_and, and_true]) <;> omega) (by (try simp only [he124.eq, true_and, and_true]) <;> omega) hqueb (by (try simp only [he124.eq, true_and, and_true]) <;> omega)
                    · refine J_aload_n dX7_shortest_75 rfl ?_
                      refine J_get jf_X7_95 dX7_shortest_76 hOgs53a0 hFgs53a0_33 ?_
                      refine J_iload_n dX7_shortest_79 rfl ?_
                      refine Jz_iald (r := ((-1), 35)) jEq.rf dX7_shortest_80 hAF33n53 rfl hvF33n53 (by omega) (by omega) (fun y80 hf80 hl80 hh80 => ?_)
                      dsimp only at hl80 hh80
                      refine Jz_iconst (-1) dX7_shortest_81 (by decide) (fun y81 he81 => ?_)
                      refine Jz_icmp_ne (tgt := 124) jEq.rf he81 dX7_shortest_82 (by decide) (fun c82 => ?_) (fun c82 => ?_)
                      · refine Jz_iinc 1 dX7_shortest_124 rfl rfl (by decide) jEq.rf (by decide) (by omega) (by omega) (fun y124 he124 => ?_)
                        refine J_goto (tgt := 53) dX7_shortest_127 (by decide) ?_
                        refine J.mask [true, true, true, false] ?_
                        exact ih53 _ y124 gs53a0 g22n53 F33n53 F29n53 hW he ha0 hb2t33 hb35 hkp hOgs53a0 hFgs53a0_22 hFgs53a0_33 hFgs53a0_21 hAF33n53 hAF29n53 (by (try simp only [he124.eq, true_and, and_true]) <;> omega) (by (try simp only [he124.eq, true_and, and_true]) <;> omega) (by (try simp only [he124.eq, true_and, and_true]) <;> omega) hqueb (by (try simp only [he124.eq, true_and, and_true]) <;> omega)
                      · have hlt := jcn_lt (c := -1) (F := F33n53) (k := y66.toInt.toNat) (by rw [hf80]; exact c82) 36 (by omega)
                        refine J_aload_n dX7_shortest_85 rfl ?_
                        refine J_get jf_X7_95 dX7_shortest_86 hOgs53a0 hFgs53a0_33 ?_
                        refine J_iload_n dX7_shortest_89 rfl ?_
                        refine J_aload_n dX7_shortest_90 rfl ?_
                        refine J_get jf_X7_95 dX7_shortest_91 hOgs53a0 hFgs53a0_33 ?_
                        refine J_aload_n dX7_shortest_94 rfl ?_
                        refine J_get jf_X7_70 dX7_shortest_95 hOgs53a0 hFgs53a0_21 ?_
                        refine J_iload_n dX7_shortest_98 rfl ?_
                        refine Jz_iald (r := (0, 9999)) jEq.rf dX7_shortest_99 hAF29n53 rfl hvF29n53 (by omega) (by omega) (fun y99 hf99 hl99 hh99 => ?_)
                        dsimp only at hl99 hh99
                        clear hl99 hh99
                        have he99 : jEq y99.toInt (y64.toInt) := by rw [← hf99, hf64]; exact jEq.rf
                        refine Jz_iald (r := ((-1), 35)) he99 dX7_shortest_100 hAF33n53 rfl hvF33n53 (by omega) (by omega) (fun y100 hf100 hl100 hh100 => ?_)
                        dsimp only at hl100 hh100
                        rw [hf100] at hb64
                        refine Jz_iconst 1 dX7_shortest_101 (by decide) (fun y101 he101 => ?_)
                        refine Jz_iadd jEq.rf he101 dX7_shortest_102 (by omega) (by omega) (fun y102 he102 => ?_)
                        refine Jz_iast (r := ((-1), 35)) jEq.rf he102 hW id dX7_shortest_103 hAF33n53 rfl rfl (by omega) (by omega) (by omega) (by omega) (fun V103 G103 hW hx103 hA103 hp103 ho103 => ?_)
                        obtain ⟨hN103, hv103⟩ := WT_rngI (r := ((-1), 35)) hW id rfl hA103
                        clear hN103
                        have he := he.trans (hx103.sub (jsub_of rfl))
                        have hkp := hkp.trans (jkc.of hx103 (jnot_of rfl))
                        have ha0 := ha0.mono hx103.1
                        have hb2t33 := hb2t33.mono hx103.1
                        have hb35 := hb35.mono hx103.1
                        have hOgs53a0 := hx103.2 _ _ hOgs53a0 (jnot_of rfl)
                        have hKgs53a0 := hKgs53a0.mono hx103.1
                        have hAF29n53 := hx103.2 _ _ hAF29n53 (jnot_of rfl)
                        refine J_aload_n dX7_shortest_104 rfl ?_
                        refine J_get jf_X7_70 dX7_shortest_105 hOgs53a0 hFgs53a0_21 ?_
                        refine J_aload_n dX7_shortest_108 rfl ?_
                        refine J_get jf_X7_205 dX7_shortest_109 hOgs53a0 hFgs53a0_22 ?_
                        refine J_iload_n dX7_shortest_112 rfl ?_
                        refine Jz_iast (r := (0, 9999)) jEq.rf jEq.rf hW id dX7_shortest_113 hAF29n53 rfl rfl (by omega) (by omega) (by omega) (by omega) (fun V113 G113 hW hx113 hA113 hp113 ho113 => ?_)
                        obtain ⟨hN113, hv113⟩ := WT_rngI (r := (0, 9999)) hW id rfl hA113
                        clear hN113
                        have he := he.trans (hx113.sub (jsub_of rfl))
                        have hkp := hkp.trans (jkc.of hx113 (jnot_of rfl))
                        have ha0 := ha0.mono hx113.1
                        have hb2t33 := hb2t33.mono hx113.1
                        have hb35 := hb35.mono hx113.1
                        have hOgs53a0 := hx113.2 _ _ hOgs53a0 (jnot_of rfl)
                        have hKgs53a0 := hKgs53a0.mono hx113.1
                        have hA103 := hx113.2 _ _ hA103 (jnot_of rfl)
                        refine J_aload_n dX7_shortest_114 rfl ?_
                        refine J_dup dX7_shortest_115 rfl ?_
                        refine J_get jf_X7_205 dX7_shortest_116 hOgs53a0 hFgs53a0_22 ?_
                        refine Jz_iconst 1 dX7_shortest_119 (by decide) (fun y119 he119 => ?_)
                        refine Jz_iadd jEq.rf he119 dX7_shortest_120 (by omega) (by omega) (fun y120 he120 => ?_)
                        refine Jz_putI hOgs53a0 hW id rfl jf_X7_205 jt_X7_22 he120 dX7_shortest_121 (by omega) (by omega) (fun _ _ => ⟨rfl, rfl⟩) (fun V121 fs121 hW hx121 hO121 hS121 hT121 hB121 => ?_)
                        have hK121 : jokO _ (jFs 5) fs121 := hW _ _ id hO121
                        have hF121_33 := (hT121 33 (by decide)).trans hFgs53a0_33
                        have hF121_21 := (hT121 21 (by decide)).trans hFgs53a0_21
                        have he := he.trans (hx121.sub (jsub_of rfl))
                        have hkp := hkp.trans (jkc.put hOgs53a0 hO121 hT121 hB121 (by decide))
                        have ha0 := ha0.mono hx121.1
                        have hb2t33 := hb2t33.mono hx121.1
                        have hb35 := hb35.mono hx121.1
                        have hA103 := hx121.2 _ _ hA103 (jnot_of rfl)
                        have hA113 := hx121.2 _ _ hA113 (jnot_of rfl)
                        refine Jz_iinc 1 dX7_shortest_124 rfl rfl (by decide) jEq.rf (by decide) (by omega) (by omega) (fun y124 he124 => ?_)
                        refine J_goto (tgt := 53) dX7_shortest_127 (by decide) ?_
                        have hup := jcn_up (c := -1) (show (F33n53 y66.toInt.toNat).toInt = -1 by rw [hf80]; exact c82) (by rw [hp103, he102.eq]; omega) ho103 36 (by omega)
                        refine J.mask [true, true, true, false] ?_
                        exact ih53 _ y124 fs121 y120 G103 G113 hW he ha0 hb2t33 hb35 hkp hO121 hS121 hF121_33 hF121_21 hA103 hA113 (by (try simp only [he124.eq, he120.eq, true_and, and_true]) <;> omega) (by (try simp only [he124.eq, he120.eq, true_and, and_true]) <;> omega) (by (try simp only [he124.eq, he120.eq, true_and, and_true]) <;> omega) (fun j hj => by rw [he120.eq] at hj; exact (Nat.decEq j g22n53.toInt.toNat).byCases (fun hq => by rw [hq, hp113, hp103, he102.eq]; omega) (fun hq => by rw [ho113 j hq]; have h1 := hqueb j (by omega); rw [ho103 _ (fun h9 => by rw [h9, hf80] at h1; omega)]; exact h1)) (by (try simp only [he124.eq, he120.eq, true_and, and_true]) <;> omega)
              refine J.mask [true, true, true, false] ?_
              exact L53 _ _ y51 gs43a0 g22n43 F33n43 F29n43 hW he ha0 hb2t33 hb35 hkp hOgs43a0 hFgs43a0_22 hFgs43a0_33 hFgs43a0_21 hAF33n43 hAF29n43 (by (try simp only [he51.eq, true_and, and_true]) <;> omega) (by (try simp only [he51.eq, true_and, and_true]) <;> omega) (by (try simp only [he51.eq, true_and, and_true]) <;> omega) hque (Nat.lt_succ_self _)
        refine J.mask [true, true, false, false] ?_
        exact L43 _ _ y41 fs31 y30 F33n2 G40 hW he ha0 hb2t33 hb35 hkp hO31 hS31 hF31_33 hF35 hAF33n2 hA40 (by (try simp only [he41.eq, he30.eq, true_and, and_true]) <;> omega) (by rw [he30.eq, jcn_one (n := 36) (by rw [(hz 0 (by omega)).1 rfl]; decide) (fun k h1 h2 => (hz k (by omega)).2 (by omega)) (by omega)]; rfl) (fun j hj => by rw [he30.eq] at hj; rw [show j = Int.toNat 0 by omega, hp40, he39.eq, show (F33n2 (Int.toNat 0)).toInt = 0 from (hz 0 (by omega)).1 rfl]; omega) (Nat.lt_succ_self _)
      · refine J_aload_n dX7_shortest_8 rfl ?_
        refine J_get jf_X7_95 dX7_shortest_9 hO2t33 hF2t33 ?_
        refine J_iload_n dX7_shortest_12 rfl ?_
        refine J_iload_n dX7_shortest_13 rfl ?_
        have K22 : ∀ (t0k22 : Int32), ((i1n2.toInt = 0 ∧ t0k22.toInt = 0) ∨ (¬ i1n2.toInt = 0 ∧ t0k22.toInt = -1)) → J tS mX7_shortest d 22 [some (.ref a0), some (.int i1n2), none, none] [.int t0k22, .int i1n2, .ref b2t33] V 0 0 (fun r V => (jPost [.inr 5, .inl 33, .inl 29] V0 (fun r _ => ∃ y : Int32, r = some (.int y) ∧ ((-2147483648) ≤ y.toInt) ∧ (y.toInt ≤ 2147483647))) r V ∧ jkc 5 [0, 23, 24, 26, 27, 28] V0 V) := by
          intro  t0k22     hk22_0
          refine Jz_iast (r := ((-1), 35)) jEq.rf jEq.rf hW id dX7_shortest_22 hAF33n2 rfl rfl (by omega) (by omega) (by omega) (by omega) (fun V22 G22 hW hx22 hA22 hp22 ho22 => ?_)
          obtain ⟨hN22, hv22⟩ := WT_rngI (r := ((-1), 35)) hW id rfl hA22
          clear hN22
          have he := he.trans (hx22.sub (jsub_of rfl))
          have hkp := hkp.trans (jkc.of hx22 (jnot_of rfl))
          have ha0 := ha0.mono hx22.1
          have hb2t33 := hb2t33.mono hx22.1
          have hO2t33 := hx22.2 _ _ hO2t33 (jnot_of rfl)
          have hK2t33 := hK2t33.mono hx22.1
          refine Jz_iinc 1 dX7_shortest_23 rfl rfl (by decide) jEq.rf (by decide) (by omega) (by omega) (fun y23 he23 => ?_)
          refine J_goto (tgt := 2) dX7_shortest_26 (by decide) ?_
          refine J.mask [true, true, false, false] ?_
          exact ih2 _ y23 G22 hW he ha0 hb2t33 hkp hO2t33 hK2t33 hA22 (by (try simp only [he23.eq, true_and, and_true]) <;> omega) (fun k hk => by rw [he23.eq] at hk; exact (Nat.decEq k i1n2.toInt.toNat).byCases (fun hq => by rw [hq, hp22]; omega) (fun hq => by rw [ho22 k hq]; exact hz k (by omega))) (by (try simp only [he23.eq, true_and, and_true]) <;> omega)
        refine Jz_if_ne (tgt := 21) jEq.rf dX7_shortest_14 (by decide) (fun c14 => ?_) (fun c14 => ?_)
        · refine Jz_iconst (-1) dX7_shortest_21 (by decide) (fun y21 he21 => ?_)
          exact K22  y21  (by (try simp only [he21.eq, true_and, and_true]) <;> omega)
        · refine Jz_iconst 0 dX7_shortest_17 (by decide) (fun y17 he17 => ?_)
          refine J_goto (tgt := 22) dX7_shortest_18 (by decide) ?_
          exact K22  y17  (by (try simp only [he17.eq, true_and, and_true]) <;> omega)
  refine J.mask [true, true, false, false] ?_
  exact L2 _ _ y0 f2tb2t33 hW he ha0 hb2t33 hkp hO2t33 hK2t33 hA2tb2t33 (by (try simp only [he0.eq, true_and, and_true]) <;> omega) (fun k hk => by rw [he0.eq] at hk; omega) (Nat.lt_succ_self _)
set_option maxRecDepth 100000 in
set_option maxHeartbeats 8000000 in
theorem w_X7_hole_out {tS : jTS} (d : Nat) (V0 : jH) (a0 : Nat) (x1 : Int32) (x2 : Int32) (x3 : Int32) (wd : Int32) (hg : Int32) (rh : Nat) (H43 : Nat → Int32) (hd : 1 ≤ d) (hW : WT V0) (ha0 : jis V0 (.inr 5) a0) (hl3 : 0 ≤ x3.toInt) (hh3 : x3.toInt ≤ 1) (hf_wd : jfI V0 a0 5 23 wd) (hf_hg : jfI V0 a0 5 24 hg) (hr_rh : jfR V0 a0 5 25 rh) (ha_H43 : V0 rh = some (.inl (43, 36, .inl H43))) (hp0 : 2 ≤ wd.toInt) (hp1 : 2 ≤ hg.toInt) (hp2 : ¬ (0 ≤ x1.toInt ∧ x1.toInt < wd.toInt ∧ 0 ≤ x2.toInt ∧ x2.toInt < hg.toInt)) : jTot tS mX7_hole d [.ref a0, .int x1, .int x2, .int x3] V0 0 0 (fun r V => (fun r _ => ∃ y : Int32, r = some (.int y) ∧ ((-2147483648) ≤ y.toInt) ∧ (y.toInt ≤ 2147483647) ∧ (y.toInt = -2)) r V ∧ V = V0) := by
  refine jTot.of_J [some (.ref a0), some (.int x1), some (.int x2), some (.int x3), none] moX7_hole (Nat.le_of_ble_eq_true rfl) rfl ?_
  have hrx1 := j_rng x1
  have hrx2 := j_rng x2
  have he : jeff [] V0 V0 := jeff.refl _ _
  obtain ⟨fs_a0, hO_a0, hK_a0⟩ := WT_obj hW id ha0
  have hF_wd := hf_wd.get hO_a0
  have hrwd : 2 ≤ wd.toInt ∧ wd.toInt ≤ 6 := jok_rngI hK_a0 rfl hF_wd
  have hF_hg := hf_hg.get hO_a0
  have hrhg : 2 ≤ hg.toInt ∧ hg.toInt ≤ 6 := jok_rngI hK_a0 rfl hF_hg
  have hF_rh := hr_rh.get hO_a0
  obtain ⟨w_rh, hFq_rh, b_rh, hbq_rh, hb_rh⟩ := hK_a0.2 25 (.inr (some (.inl 43))) rfl
  cases hF_rh.symm.trans (hFq_rh.trans (congrArg some hbq_rh))
  obtain ⟨hN_H43, hv_H43⟩ := WT_rngI (r := (0, 1)) hW id rfl ha_H43
  clear hN_H43
  refine J_iload_n dX7_hole_0 rfl ?_
  refine Jz_iconst 0 dX7_hole_1 (by decide) (fun y1 he1 => ?_)
  refine J_aload_n dX7_hole_2 rfl ?_
  refine J_get jf_X7_73 dX7_hole_3 hO_a0 hF_wd ?_
  refine Jz_iconst 1 dX7_hole_6 (by decide) (fun y6 he6 => ?_)
  refine Jz_isub jEq.rf he6 dX7_hole_7 (by omega) (by omega) (fun y7 he7 => ?_)
  refine J_callS3 moX7_in jw_ml_X7_105 jw_st_X7_in dX7_hole_8 (w_X7_in (d - 1) _ x1 y1 y7 (by omega)   ) (by omega) (Nat.zero_le _) (Nat.zero_le _) (Nat.le_of_ble_eq_true rfl) (fun r8 V8 h8 => ?_)
  obtain ⟨⟨y8, rfl, hl8, hh8, hI8_0, hI8_1⟩, hE8⟩ := h8
  have hE8 := hE8.symm
  subst hE8
  refine Jz_if_eq (tgt := 28) jEq.rf dX7_hole_11 (by decide) (fun c11 => ?_) (fun c11 => ?_)
  · have q11_1 := hI8_1.of (by omega)
    try simp only [he1.eq, he7.eq] at q11_1
    refine Jz_bipush (-2) dX7_hole_28 (by decide) (fun y28 he28 => ?_)
    exact J_ret (r := some (.int _)) dX7_hole_30 ⟨rfl, _, rfl, rfl⟩ (⟨⟨_, rfl, (j_rng _).1, (j_rng _).2, (by (try simp only [he28.eq, true_and, and_true]) <;> omega)⟩, rfl⟩)
  · have q11_0 := hI8_0.of (by omega)
    try simp only [he1.eq, he7.eq] at q11_0
    refine J_iload_n dX7_hole_14 rfl ?_
    refine Jz_iconst 0 dX7_hole_15 (by decide) (fun y15 he15 => ?_)
    refine J_aload_n dX7_hole_16 rfl ?_
    refine J_get jf_X7_77 dX7_hole_17 hO_a0 hF_hg ?_
    refine Jz_iconst 1 dX7_hole_20 (by decide) (fun y20 he20 => ?_)
    refine Jz_isub jEq.rf he20 dX7_hole_21 (by omega) (by omega) (fun y21 he21 => ?_)
    refine J_callS3 moX7_in jw_ml_X7_105 jw_st_X7_in dX7_hole_22 (w_X7_in (d - 1) _ x2 y15 y21 (by omega)   ) (by omega) (Nat.zero_le _) (Nat.zero_le _) (Nat.le_of_ble_eq_true rfl) (fun r22 V22 h22 => ?_)
    obtain ⟨⟨y22, rfl, hl22, hh22, hI22_0, hI22_1⟩, hE22⟩ := h22
    have hE22 := hE22.symm
    subst hE22
    refine Jz_if_ne (tgt := 31) jEq.rf dX7_hole_25 (by decide) (fun c25 => ?_) (fun c25 => ?_)
    · have q25_0 := hI22_0.of (by omega)
      try simp only [he15.eq, he21.eq] at q25_0
      exact False.elim (by omega)
    · have q25_1 := hI22_1.of (by omega)
      try simp only [he15.eq, he21.eq] at q25_1
      refine Jz_bipush (-2) dX7_hole_28 (by decide) (fun y28 he28 => ?_)
      exact J_ret (r := some (.int _)) dX7_hole_30 ⟨rfl, _, rfl, rfl⟩ (⟨⟨_, rfl, (j_rng _).1, (j_rng _).2, (by (try simp only [he28.eq, true_and, and_true]) <;> omega)⟩, rfl⟩)
set_option maxRecDepth 100000 in
set_option maxHeartbeats 8000000 in
theorem w_X7_hole_same {tS : jTS} (d : Nat) (V0 : jH) (a0 : Nat) (x1 : Int32) (x2 : Int32) (x3 : Int32) (wd : Int32) (hg : Int32) (rh : Nat) (H43 : Nat → Int32) (hd : 1 ≤ d) (hW : WT V0) (ha0 : jis V0 (.inr 5) a0) (hl3 : 0 ≤ x3.toInt) (hh3 : x3.toInt ≤ 1) (hf_wd : jfI V0 a0 5 23 wd) (hf_hg : jfI V0 a0 5 24 hg) (hr_rh : jfR V0 a0 5 25 rh) (ha_H43 : V0 rh = some (.inl (43, 36, .inl H43))) (hp0 : 2 ≤ wd.toInt) (hp1 : 2 ≤ hg.toInt) (hp2 : 0 ≤ x1.toInt ∧ x1.toInt < wd.toInt ∧ 0 ≤ x2.toInt ∧ x2.toInt < hg.toInt) (hp3 : (H43 (x1.toInt + wd.toInt * x2.toInt).toNat).toInt = x3.toInt ∨ (x1.toInt = 0 ∧ x2.toInt = 0 ∨ x1.toInt = wd.toInt - 1 ∧ x2.toInt = hg.toInt - 1)) : jTot tS mX7_hole d [.ref a0, .int x1, .int x2, .int x3] V0 0 0 (fun r V => (fun r _ => ∃ y : Int32, r = some (.int y) ∧ ((-2147483648) ≤ y.toInt) ∧ (y.toInt ≤ 2147483647) ∧ (y.toInt = -3)) r V ∧ V = V0) := by
  refine jTot.of_J [some (.ref a0), some (.int x1), some (.int x2), some (.int x3), none] moX7_hole (Nat.le_of_ble_eq_true rfl) rfl ?_
  have hrx1 := j_rng x1
  have hrx2 := j_rng x2
  have he : jeff [] V0 V0 := jeff.refl _ _
  obtain ⟨fs_a0, hO_a0, hK_a0⟩ := WT_obj hW id ha0
  have hF_wd := hf_wd.get hO_a0
  have hrwd : 2 ≤ wd.toInt ∧ wd.toInt ≤ 6 := jok_rngI hK_a0 rfl hF_wd
  have hF_hg := hf_hg.get hO_a0
  have hrhg : 2 ≤ hg.toInt ∧ hg.toInt ≤ 6 := jok_rngI hK_a0 rfl hF_hg
  have hF_rh := hr_rh.get hO_a0
  obtain ⟨w_rh, hFq_rh, b_rh, hbq_rh, hb_rh⟩ := hK_a0.2 25 (.inr (some (.inl 43))) rfl
  cases hF_rh.symm.trans (hFq_rh.trans (congrArg some hbq_rh))
  obtain ⟨hN_H43, hv_H43⟩ := WT_rngI (r := (0, 1)) hW id rfl ha_H43
  clear hN_H43
  refine J_iload_n dX7_hole_0 rfl ?_
  refine Jz_iconst 0 dX7_hole_1 (by decide) (fun y1 he1 => ?_)
  refine J_aload_n dX7_hole_2 rfl ?_
  refine J_get jf_X7_73 dX7_hole_3 hO_a0 hF_wd ?_
  refine Jz_iconst 1 dX7_hole_6 (by decide) (fun y6 he6 => ?_)
  refine Jz_isub jEq.rf he6 dX7_hole_7 (by omega) (by omega) (fun y7 he7 => ?_)
  refine J_callS3 moX7_in jw_ml_X7_105 jw_st_X7_in dX7_hole_8 (w_X7_in (d - 1) _ x1 y1 y7 (by omega)   ) (by omega) (Nat.zero_le _) (Nat.zero_le _) (Nat.le_of_ble_eq_true rfl) (fun r8 V8 h8 => ?_)
  obtain ⟨⟨y8, rfl, hl8, hh8, hI8_0, hI8_1⟩, hE8⟩ := h8
  have hE8 := hE8.symm
  subst hE8
  refine Jz_if_eq (tgt := 28) jEq.rf dX7_hole_11 (by decide) (fun c11 => ?_) (fun c11 => ?_)
  · have q11_1 := hI8_1.of (by omega)
    try simp only [he1.eq, he7.eq] at q11_1
    exact False.elim (by omega)
  · have q11_0 := hI8_0.of (by omega)
    try simp only [he1.eq, he7.eq] at q11_0
    refine J_iload_n dX7_hole_14 rfl ?_
    refine Jz_iconst 0 dX7_hole_15 (by decide) (fun y15 he15 => ?_)
    refine J_aload_n dX7_hole_16 rfl ?_
    refine J_get jf_X7_77 dX7_hole_17 hO_a0 hF_hg ?_
    refine Jz_iconst 1 dX7_hole_20 (by decide) (fun y20 he20 => ?_)
    refine Jz_isub jEq.rf he20 dX7_hole_21 (by omega) (by omega) (fun y21 he21 => ?_)
    refine J_callS3 moX7_in jw_ml_X7_105 jw_st_X7_in dX7_hole_22 (w_X7_in (d - 1) _ x2 y15 y21 (by omega)   ) (by omega) (Nat.zero_le _) (Nat.zero_le _) (Nat.le_of_ble_eq_true rfl) (fun r22 V22 h22 => ?_)
    obtain ⟨⟨y22, rfl, hl22, hh22, hI22_0, hI22_1⟩, hE22⟩ := h22
    have hE22 := hE22.symm
    subst hE22
    refine Jz_if_ne (tgt := 31) jEq.rf dX7_hole_25 (by decide) (fun c25 => ?_) (fun c25 => ?_)
    · have q25_0 := hI22_0.of (by omega)
      try simp only [he15.eq, he21.eq] at q25_0
      refine J_iload_n dX7_hole_31 rfl ?_
      refine J_aload_n dX7_hole_32 rfl ?_
      refine J_get jf_X7_73 dX7_hole_33 hO_a0 hF_wd ?_
      refine J_iload_n dX7_hole_36 rfl ?_
      have hm0 := Int.mul_nonneg (show 0 ≤ wd.toInt by omega) (show 0 ≤ x2.toInt by omega)
      have hm1 := Int.mul_le_mul_of_nonneg_left (show x2.toInt ≤ 5 by omega) (show 0 ≤ wd.toInt by omega)
      have hz0 := jcell_zero (x := x1.toInt) (y := x2.toInt) (w := wd.toInt) (by omega) (by omega) (by omega)
      have hzl := jcell_last (x := x1.toInt) (y := x2.toInt) (w := wd.toInt) (h := hg.toInt) (by omega) (by omega) (by omega) (by omega)
      have hm2 := Int.mul_nonneg (show 0 ≤ wd.toInt by omega) (show 0 ≤ hg.toInt by omega)
      have hm3 := Int.mul_le_mul_of_nonneg_left (show hg.toInt ≤ 6 by omega) (show 0 ≤ wd.toInt by omega)
      refine Jz_imul jEq.rf jEq.rf dX7_hole_37 (by omega) (by omega) (fun y37 he37 => ?_)
      refine Jz_iadd jEq.rf he37 dX7_hole_38 (by omega) (by omega) (fun y38 he38 => ?_)
      refine J_istore dX7_hole_39 rfl (by decide) ?_
      refine J_aload_n dX7_hole_41 rfl ?_
      refine J_get jf_X7_80 dX7_hole_42 hO_a0 hF_rh ?_
      refine J_iload dX7_hole_45 rfl ?_
      refine Jz_zald (r := (0, 1)) he38 dX7_hole_47 ha_H43 rfl hv_H43 (by omega) (by omega) (fun y47 hf47 hl47 hh47 => ?_)
      dsimp only at hl47 hh47
      refine J_iload_n dX7_hole_48 rfl ?_
      refine Jz_icmp_eq (tgt := 73) jEq.rf jEq.rf dX7_hole_49 (by decide) (fun c49 => ?_) (fun c49 => ?_)
      · refine Jz_bipush (-3) dX7_hole_73 (by decide) (fun y73 he73 => ?_)
        exact J_ret (r := some (.int _)) dX7_hole_75 ⟨rfl, _, rfl, rfl⟩ (⟨⟨_, rfl, (j_rng _).1, (j_rng _).2, (by (try simp only [he73.eq, true_and, and_true]) <;> omega)⟩, rfl⟩)
      · refine J_iload dX7_hole_52 rfl ?_
        refine Jz_if_eq (tgt := 73) he38 dX7_hole_54 (by decide) (fun c54 => ?_) (fun c54 => ?_)
        · refine Jz_bipush (-3) dX7_hole_73 (by decide) (fun y73 he73 => ?_)
          exact J_ret (r := some (.int _)) dX7_hole_75 ⟨rfl, _, rfl, rfl⟩ (⟨⟨_, rfl, (j_rng _).1, (j_rng _).2, (by (try simp only [he73.eq, true_and, and_true]) <;> omega)⟩, rfl⟩)
        · refine J_iload dX7_hole_57 rfl ?_
          refine J_aload_n dX7_hole_59 rfl ?_
          refine J_get jf_X7_73 dX7_hole_60 hO_a0 hF_wd ?_
          refine J_aload_n dX7_hole_63 rfl ?_
          refine J_get jf_X7_77 dX7_hole_64 hO_a0 hF_hg ?_
          refine Jz_imul jEq.rf jEq.rf dX7_hole_67 (by omega) (by omega) (fun y67 he67 => ?_)
          refine Jz_iconst 1 dX7_hole_68 (by decide) (fun y68 he68 => ?_)
          refine Jz_isub he67 he68 dX7_hole_69 (by omega) (by omega) (fun y69 he69 => ?_)
          refine Jz_icmp_ne (tgt := 76) he38 he69 dX7_hole_70 (by decide) (fun c70 => ?_) (fun c70 => ?_)
          · exact False.elim (by rw [hf47] at hp3; omega)
          · refine Jz_bipush (-3) dX7_hole_73 (by decide) (fun y73 he73 => ?_)
            exact J_ret (r := some (.int _)) dX7_hole_75 ⟨rfl, _, rfl, rfl⟩ (⟨⟨_, rfl, (j_rng _).1, (j_rng _).2, (by (try simp only [he73.eq, true_and, and_true]) <;> omega)⟩, rfl⟩)
    · have q25_1 := hI22_1.of (by omega)
      try simp only [he15.eq, he21.eq] at q25_1
      exact False.elim (by omega)
set_option maxRecDepth 100000 in
set_option maxHeartbeats 8000000 in
theorem w_X7_hole_turn {tS : jTS} (d : Nat) (V0 : jH) (a0 : Nat) (x1 : Int32) (x2 : Int32) (x3 : Int32) (wd : Int32) (hg : Int32) (rh : Nat) (H43 : Nat → Int32) (hd : 1 ≤ d) (hW : WT V0) (ha0 : jis V0 (.inr 5) a0) (hl3 : 0 ≤ x3.toInt) (hh3 : x3.toInt ≤ 1) (hf_wd : jfI V0 a0 5 23 wd) (hf_hg : jfI V0 a0 5 24 hg) (hr_rh : jfR V0 a0 5 25 rh) (ha_H43 : V0 rh = some (.inl (43, 36, .inl H43))) (hp0 : 2 ≤ wd.toInt) (hp1 : 2 ≤ hg.toInt) (hp2 : 0 ≤ x1.toInt ∧ x1.toInt < wd.toInt ∧ 0 ≤ x2.toInt ∧ x2.toInt < hg.toInt) (hp3 : ¬ (H43 (x1.toInt + wd.toInt * x2.toInt).toNat).toInt = x3.toInt) (hp4 : ¬ (x1.toInt = 0 ∧ x2.toInt = 0 ∨ x1.toInt = wd.toInt - 1 ∧ x2.toInt = hg.toInt - 1)) : jTot tS mX7_hole d [.ref a0, .int x1, .int x2, .int x3] V0 0 0 (fun r V => (jPost [.inr 5, .inl 43] V0 (fun r _ => ∃ y : Int32, r = some (.int y) ∧ ((-2147483648) ≤ y.toInt) ∧ (y.toInt ≤ 2147483647) ∧ (y.toInt = 1))) r V ∧ (∃ G : Nat → Int32, V rh = some (.inl (43, 36, .inl G)) ∧ G (x1.toInt + wd.toInt * x2.toInt).toNat = x3 ∧ ∀ j : Nat, j ≠ (x1.toInt + wd.toInt * x2.toInt).toNat → G j = H43 j) ∧ jkc 5 [0, 23, 24] V0 V ∧ (∃ c26 : Int32, jfI V a0 5 26 c26 ∧ (c26.toInt = 0))) := by
  refine jTot.of_J [some (.ref a0), some (.int x1), some (.int x2), some (.int x3), none] moX7_hole (Nat.le_of_ble_eq_true rfl) rfl ?_
  have hrx1 := j_rng x1
  have hrx2 := j_rng x2
  have he : jeff [.inr 5, .inl 43] V0 V0 := jeff.refl _ _
  have hkp : jkc 5 [0, 23, 24] V0 V0 := jkc.rf
  obtain ⟨fs_a0, hO_a0, hK_a0⟩ := WT_obj hW id ha0
  have hF_wd := hf_wd.get hO_a0
  have hrwd : 2 ≤ wd.toInt ∧ wd.toInt ≤ 6 := jok_rngI hK_a0 rfl hF_wd
  have hF_hg := hf_hg.get hO_a0
  have hrhg : 2 ≤ hg.toInt ∧ hg.toInt ≤ 6 := jok_rngI hK_a0 rfl hF_hg
  have hF_rh := hr_rh.get hO_a0
  obtain ⟨w_rh, hFq_rh, b_rh, hbq_rh, hb_rh⟩ := hK_a0.2 25 (.inr (some (.inl 43))) rfl
  cases hF_rh.symm.trans (hFq_rh.trans (congrArg some hbq_rh))
  obtain ⟨hN_H43, hv_H43⟩ := WT_rngI (r := (0, 1)) hW id rfl ha_H43
  clear hN_H43
  refine J_iload_n dX7_hole_0 rfl ?_
  refine Jz_iconst 0 dX7_hole_1 (by decide) (fun y1 he1 => ?_)
  refine J_aload_n dX7_hole_2 rfl ?_
  refine J_get jf_X7_73 dX7_hole_3 hO_a0 hF_wd ?_
  refine Jz_iconst 1 dX7_hole_6 (by decide) (fun y6 he6 => ?_)
  refine Jz_isub jEq.rf he6 dX7_hole_7 (by omega) (by omega) (fun y7 he7 => ?_)
  refine J_callS3 moX7_in jw_ml_X7_105 jw_st_X7_in dX7_hole_8 (w_X7_in (d - 1) _ x1 y1 y7 (by omega)   ) (by omega) (Nat.zero_le _) (Nat.zero_le _) (Nat.le_of_ble_eq_true rfl) (fun r8 V8 h8 => ?_)
  obtain ⟨⟨y8, rfl, hl8, hh8, hI8_0, hI8_1⟩, hE8⟩ := h8
  have hE8 := hE8.symm
  subst hE8
  refine Jz_if_eq (tgt := 28) jEq.rf dX7_hole_11 (by decide) (fun c11 => ?_) (fun c11 => ?_)
  · have q11_1 := hI8_1.of (by omega)
    try simp only [he1.eq, he7.eq] at q11_1
    exact False.elim (by omega)
  · have q11_0 := hI8_0.of (by omega)
    try simp only [he1.eq, he7.eq] at q11_0
    refine J_iload_n dX7_hole_14 rfl ?_
    refine Jz_iconst 0 dX7_hole_15 (by decide) (fun y15 he15 => ?_)
    refine J_aload_n dX7_hole_16 rfl ?_
    refine J_get jf_X7_77 dX7_hole_17 hO_a0 hF_hg ?_
    refine Jz_iconst 1 dX7_hole_20 (by decide) (fun y20 he20 => ?_)
    refine Jz_isub jEq.rf he20 dX7_hole_21 (by omega) (by omega) (fun y21 he21 => ?_)
    refine J_callS3 moX7_in jw_ml_X7_105 jw_st_X7_in dX7_hole_22 (w_X7_in (d - 1) _ x2 y15 y21 (by omega)   ) (by omega) (Nat.zero_le _) (Nat.zero_le _) (Nat.le_of_ble_eq_true rfl) (fun r22 V22 h22 => ?_)
    obtain ⟨⟨y22, rfl, hl22, hh22, hI22_0, hI22_1⟩, hE22⟩ := h22
    have hE22 := hE22.symm
    subst hE22
    refine Jz_if_ne (tgt := 31) jEq.rf dX7_hole_25 (by decide) (fun c25 => ?_) (fun c25 => ?_)
    · have q25_0 := hI22_0.of (by omega)
      try simp only [he15.eq, he21.eq] at q25_0
      refine J_iload_n dX7_hole_31 rfl ?_
      refine J_aload_n dX7_hole_32 rfl ?_
      refine J_get jf_X7_73 dX7_hole_33 hO_a0 hF_wd ?_
      refine J_iload_n dX7_hole_36 rfl ?_
      have hm0 := Int.mul_nonneg (show 0 ≤ wd.toInt by omega) (show 0 ≤ x2.toInt by omega)
      have hm1 := Int.mul_le_mul_of_nonneg_left (show x2.toInt ≤ 5 by omega) (show 0 ≤ wd.toInt by omega)
      have hz0 := jcell_zero (x := x1.toInt) (y := x2.toInt) (w := wd.toInt) (by omega) (by omega) (by omega)
      have hzl := jcell_last (x := x1.toInt) (y := x2.toInt) (w := wd.toInt) (h := hg.toInt) (by omega) (by omega) (by omega) (by omega)
      have hm2 := Int.mul_nonneg (show 0 ≤ wd.toInt by omega) (show 0 ≤ hg.toInt by omega)
      have hm3 := Int.mul_le_mul_of_nonneg_left (show hg.toInt ≤ 6 by omega) (show 0 ≤ wd.toInt by omega)
      refine Jz_imul jEq.rf jEq.rf dX7_hole_37 (by omega) (by omega) (fun y37 he37 => ?_)
      refine Jz_iadd jEq.rf he37 dX7_hole_38 (by omega) (by omega) (fun y38 he38 => ?_)
      refine J_istore dX7_hole_39 rfl (by decide) ?_
      refine J_aload_n dX7_hole_41 rfl ?_
      refine J_get jf_X7_80 dX7_hole_42 hO_a0 hF_rh ?_
      refine J_iload dX7_hole_45 rfl ?_
      refine Jz_zald (r := (0, 1)) he38 dX7_hole_47 ha_H43 rfl hv_H43 (by omega) (by omega) (fun y47 hf47 hl47 hh47 => ?_)
      dsimp only at hl47 hh47
      refine J_iload_n dX7_hole_48 rfl ?_
      refine Jz_icmp_eq (tgt := 73) jEq.rf jEq.rf dX7_hole_49 (by decide) (fun c49 => ?_) (fun c49 => ?_)
      · exact False.elim (by rw [hf47] at hp3; omega)
      · refine J_iload dX7_hole_52 rfl ?_
        refine Jz_if_eq (tgt := 73) he38 dX7_hole_54 (by decide) (fun c54 => ?_) (fun c54 => ?_)
        · exact False.elim (by rw [hf47] at hp3; omega)
        · refine J_iload dX7_hole_57 rfl ?_
          refine J_aload_n dX7_hole_59 rfl ?_
          refine J_get jf_X7_73 dX7_hole_60 hO_a0 hF_wd ?_
          refine J_aload_n dX7_hole_63 rfl ?_
          refine J_get jf_X7_77 dX7_hole_64 hO_a0 hF_hg ?_
          refine Jz_imul jEq.rf jEq.rf dX7_hole_67 (by omega) (by omega) (fun y67 he67 => ?_)
          refine Jz_iconst 1 dX7_hole_68 (by decide) (fun y68 he68 => ?_)
          refine Jz_isub he67 he68 dX7_hole_69 (by omega) (by omega) (fun y69 he69 => ?_)
          refine Jz_icmp_ne (tgt := 76) he38 he69 dX7_hole_70 (by decide) (fun c70 => ?_) (fun c70 => ?_)
          · refine J_aload_n dX7_hole_76 rfl ?_
            refine J_get jf_X7_80 dX7_hole_77 hO_a0 hF_rh ?_
            refine J_iload dX7_hole_80 rfl ?_
            refine J_iload_n dX7_hole_82 rfl ?_
            refine Jz_zast (r := (0, 1)) he38 jEq.rf hW id dX7_hole_83 ha_H43 rfl rfl (by omega) (by omega) (by omega) (by omega) (fun _ h => vp_nar_b (by omega) (by omega)) (fun V83 G83 hW hx83 hA83 hp83 ho83 => ?_)
            obtain ⟨hN83, hv83⟩ := WT_rngI (r := (0, 1)) hW id rfl hA83
            clear hN83
            have he := he.trans (hx83.sub (jsub_of rfl))
            have hkp := hkp.trans (jkc.of hx83 (jnot_of rfl))
            have ha0 := ha0.mono hx83.1
            have hb_rh := hb_rh.mono hx83.1
            have hO_a0 := hx83.2 _ _ hO_a0 (jnot_of rfl)
            have hK_a0 := hK_a0.mono hx83.1
            refine J_aload_n dX7_hole_84 rfl ?_
            refine Jz_iconst 0 dX7_hole_85 (by decide) (fun y85 he85 => ?_)
            refine Jz_putI hO_a0 hW id rfl jf_X7_214 jt_X7_26 he85 dX7_hole_86 (by omega) (by omega) (fun _ h => ⟨nar_b (by omega) (by omega), fit_b (by omega) (by omega)⟩) (fun V86 fs86 hW hx86 hO86 hS86 hT86 hB86 => ?_)
            have hK86 : jokO _ (jFs 5) fs86 := hW _ _ id hO86
            have hF86_23 := (hT86 23 (by decide)).trans hF_wd
            have hF86_24 := (hT86 24 (by decide)).trans hF_hg
            have hF86_25 := (hT86 25 (by decide)).trans hF_rh
            have he := he.trans (hx86.sub (jsub_of rfl))
            have hkp := hkp.trans (jkc.put hO_a0 hO86 hT86 hB86 (by decide))
            have ha0 := ha0.mono hx86.1
            have hb_rh := hb_rh.mono hx86.1
            have hA83 := hx86.2 _ _ hA83 (jnot_of rfl)
            refine Jz_iconst 1 dX7_hole_89 (by decide) (fun y89 he89 => ?_)
            exact J_ret (r := some (.int _)) dX7_hole_90 ⟨rfl, _, rfl, rfl⟩ (⟨⟨hW, he, ⟨_, rfl, (j_rng _).1, (j_rng _).2, (by (try simp only [he89.eq, true_and, and_true]) <;> omega)⟩⟩, ⟨G83, hA83, hp83, ho83⟩, hkp, ⟨_, ⟨_, hO86, hS86⟩, (by (try simp only [he85.eq, true_and, and_true]) <;> omega)⟩⟩)
          · exact False.elim (by rw [hf47] at hp3; omega)
    · have q25_1 := hI22_1.of (by omega)
      try simp only [he15.eq, he21.eq] at q25_1
      exact False.elim (by omega)
set_option maxRecDepth 100000 in
set_option maxHeartbeats 8000000 in
theorem w_X7_board_no {tS : jTS} (d : Nat) (V0 : jH) (a0 : Nat) (x1 : Int32) (x2 : Int32) (hd : 1 ≤ d) (hW : WT V0) (ha0 : jis V0 (.inr 5) a0) (hp0 : ¬ (2 ≤ x1.toInt ∧ x1.toInt ≤ 6 ∧ 2 ≤ x2.toInt ∧ x2.toInt ≤ 6)) : jTot tS mX7_board d [.ref a0, .int x1, .int x2] V0 0 0 (fun r V => (fun r _ => ∃ y : Int32, r = some (.int y) ∧ ((-2147483648) ≤ y.toInt) ∧ (y.toInt ≤ 2147483647) ∧ (y.toInt = -2)) r V ∧ V = V0) := by
  refine jTot.of_J [some (.ref a0), some (.int x1), some (.int x2), none] moX7_board (Nat.le_of_ble_eq_true rfl) rfl ?_
  have hrx1 := j_rng x1
  have hrx2 := j_rng x2
  have he : jeff [] V0 V0 := jeff.refl _ _
  refine J_iload_n dX7_board_0 rfl ?_
  refine Jz_iconst 2 dX7_board_1 (by decide) (fun y1 he1 => ?_)
  refine Jz_bipush 6 dX7_board_2 (by decide) (fun y2 he2 => ?_)
  refine J_callS3 moX7_in jw_ml_X7_105 jw_st_X7_in dX7_board_4 (w_X7_in (d - 1) _ x1 y1 y2 (by omega)   ) (by omega) (Nat.zero_le _) (Nat.zero_le _) (Nat.le_of_ble_eq_true rfl) (fun r4 V4 h4 => ?_)
  obtain ⟨⟨y4, rfl, hl4, hh4, hI4_0, hI4_1⟩, hE4⟩ := h4
  have hE4 := hE4.symm
  subst hE4
  refine Jz_if_eq (tgt := 20) jEq.rf dX7_board_7 (by decide) (fun c7 => ?_) (fun c7 => ?_)
  · have q7_1 := hI4_1.of (by omega)
    try simp only [he1.eq, he2.eq] at q7_1
    refine Jz_bipush (-2) dX7_board_20 (by decide) (fun y20 he20 => ?_)
    exact J_ret (r := some (.int _)) dX7_board_22 ⟨rfl, _, rfl, rfl⟩ (⟨⟨_, rfl, (j_rng _).1, (j_rng _).2, (by (try simp only [he20.eq, true_and, and_true]) <;> omega)⟩, rfl⟩)
  · have q7_0 := hI4_0.of (by omega)
    try simp only [he1.eq, he2.eq] at q7_0
    refine J_iload_n dX7_board_10 rfl ?_
    refine Jz_iconst 2 dX7_board_11 (by decide) (fun y11 he11 => ?_)
    refine Jz_bipush 6 dX7_board_12 (by decide) (fun y12 he12 => ?_)
    refine J_callS3 moX7_in jw_ml_X7_105 jw_st_X7_in dX7_board_14 (w_X7_in (d - 1) _ x2 y11 y12 (by omega)   ) (by omega) (Nat.zero_le _) (Nat.zero_le _) (Nat.le_of_ble_eq_true rfl) (fun r14 V14 h14 => ?_)
    obtain ⟨⟨y14, rfl, hl14, hh14, hI14_0, hI14_1⟩, hE14⟩ := h14
    have hE14 := hE14.symm
    subst hE14
    refine Jz_if_ne (tgt := 23) jEq.rf dX7_board_17 (by decide) (fun c17 => ?_) (fun c17 => ?_)
    · have q17_0 := hI14_0.of (by omega)
      try simp only [he11.eq, he12.eq] at q17_0
      exact False.elim (by omega)
    · have q17_1 := hI14_1.of (by omega)
      try simp only [he11.eq, he12.eq] at q17_1
      refine Jz_bipush (-2) dX7_board_20 (by decide) (fun y20 he20 => ?_)
      exact J_ret (r := some (.int _)) dX7_board_22 ⟨rfl, _, rfl, rfl⟩ (⟨⟨_, rfl, (j_rng _).1, (j_rng _).2, (by (try simp only [he20.eq, true_and, and_true]) <;> omega)⟩, rfl⟩)
set_option maxRecDepth 100000 in
set_option maxHeartbeats 8000000 in
theorem w_X7_board_yes {tS : jTS} (d : Nat) (V0 : jH) (a0 : Nat) (x1 : Int32) (x2 : Int32) (rh : Nat) (hd : 1 ≤ d) (hW : WT V0) (ha0 : jis V0 (.inr 5) a0) (hr_rh : jfR V0 a0 5 25 rh) (hp0 : 2 ≤ x1.toInt ∧ x1.toInt ≤ 6 ∧ 2 ≤ x2.toInt ∧ x2.toInt ≤ 6) : jTot tS mX7_board d [.ref a0, .int x1, .int x2] V0 0 0 (fun r V => (jPost [.inr 5, .inl 43] V0 (fun r _ => ∃ y : Int32, r = some (.int y) ∧ ((-2147483648) ≤ y.toInt) ∧ (y.toInt ≤ 2147483647) ∧ (y.toInt = 1))) r V ∧ (∃ G : Nat → Int32, V rh = some (.inl (43, 36, .inl G)) ∧ ∀ j : Nat, j < 36 → (G j).toInt = 0) ∧ jkc 5 [0] V0 V ∧ (∃ w2 : Int32, jfI V a0 5 23 w2 ∧ (w2.toInt = x1.toInt)) ∧ (∃ h2 : Int32, jfI V a0 5 24 h2 ∧ (h2.toInt = x2.toInt)) ∧ (∃ c26 : Int32, jfI V a0 5 26 c26 ∧ (c26.toInt = 0))) := by
  refine jTot.of_J [some (.ref a0), some (.int x1), some (.int x2), none] moX7_board (Nat.le_of_ble_eq_true rfl) rfl ?_
  have hrx1 := j_rng x1
  have hrx2 := j_rng x2
  have he : jeff [.inr 5, .inl 43] V0 V0 := jeff.refl _ _
  have hkp : jkc 5 [0] V0 V0 := jkc.rf
  obtain ⟨fs_a0, hO_a0, hK_a0⟩ := WT_obj hW id ha0
  have hF_rh := hr_rh.get hO_a0
  obtain ⟨w_rh, hFq_rh, b_rh, hbq_rh, hb_rh⟩ := hK_a0.2 25 (.inr (some (.inl 43))) rfl
  cases hF_rh.symm.trans (hFq_rh.trans (congrArg some hbq_rh))
  refine J_iload_n dX7_board_0 rfl ?_
  refine Jz_iconst 2 dX7_board_1 (by decide) (fun y1 he1 => ?_)
  refine Jz_bipush 6 dX7_board_2 (by decide) (fun y2 he2 => ?_)
  refine J_callS3 moX7_in jw_ml_X7_105 jw_st_X7_in dX7_board_4 (w_X7_in (d - 1) _ x1 y1 y2 (by omega)   ) (by omega) (Nat.zero_le _) (Nat.zero_le _) (Nat.le_of_ble_eq_true rfl) (fun r4 V4 h4 => ?_)
  obtain ⟨⟨y4, rfl, hl4, hh4, hI4_0, hI4_1⟩, hE4⟩ := h4
  have hE4 := hE4.symm
  subst hE4
  refine Jz_if_eq (tgt := 20) jEq.rf dX7_board_7 (by decide) (fun c7 => ?_) (fun c7 => ?_)
  · have q7_1 := hI4_1.of (by omega)
    try simp only [he1.eq, he2.eq] at q7_1
    exact False.elim (by omega)
  · have q7_0 := hI4_0.of (by omega)
    try simp only [he1.eq, he2.eq] at q7_0
    refine J_iload_n dX7_board_10 rfl ?_
    refine Jz_iconst 2 dX7_board_11 (by decide) (fun y11 he11 => ?_)
    refine Jz_bipush 6 dX7_board_12 (by decide) (fun y12 he12 => ?_)
    refine J_callS3 moX7_in jw_ml_X7_105 jw_st_X7_in dX7_board_14 (w_X7_in (d - 1) _ x2 y11 y12 (by omega)   ) (by omega) (Nat.zero_le _) (Nat.zero_le _) (Nat.le_of_ble_eq_true rfl) (fun r14 V14 h14 => ?_)
    obtain ⟨⟨y14, rfl, hl14, hh14, hI14_0, hI14_1⟩, hE14⟩ := h14
    have hE14 := hE14.symm
    subst hE14
    refine Jz_if_ne (tgt := 23) jEq.rf dX7_board_17 (by decide) (fun c17 => ?_) (fun c17 => ?_)
    · have q17_0 := hI14_0.of (by omega)
      try simp only [he11.eq, he12.eq] at q17_0
      refine J_aload_n dX7_board_23 rfl ?_
      refine J_iload_n dX7_board_24 rfl ?_
      refine Jz_putI hO_a0 hW id rfl jf_X7_73 jt_X7_23 jEq.rf dX7_board_25 (by omega) (by omega) (fun _ _ => ⟨rfl, rfl⟩) (fun V25 fs25 hW hx25 hO25 hS25 hT25 hB25 => ?_)
      have hK25 : jokO _ (jFs 5) fs25 := hW _ _ id hO25
      have hF25_25 := (hT25 25 (by decide)).trans hF_rh
      have he := he.trans (hx25.sub (jsub_of rfl))
      have hkp := hkp.trans (jkc.put hO_a0 hO25 hT25 hB25 (by decide))
      have ha0 := ha0.mono hx25.1
      have hb_rh := hb_rh.mono hx25.1
      refine J_aload_n dX7_board_28 rfl ?_
      refine J_iload_n dX7_board_29 rfl ?_
      refine Jz_putI hO25 hW id rfl jf_X7_77 jt_X7_24 jEq.rf dX7_board_30 (by omega) (by omega) (fun _ _ => ⟨rfl, rfl⟩) (fun V30 fs30 hW hx30 hO30 hS30 hT30 hB30 => ?_)
      have hK30 : jokO _ (jFs 5) fs30 := hW _ _ id hO30
      have hF30_23 := (hT30 23 (by decide)).trans hS25
      have hF30_25 := (hT30 25 (by decide)).trans hF25_25
      have he := he.trans (hx30.sub (jsub_of rfl))
      have hkp := hkp.trans (jkc.put hO25 hO30 hT30 hB30 (by decide))
      have ha0 := ha0.mono hx30.1
      have hb_rh := hb_rh.mono hx30.1
      refine Jz_iconst 0 dX7_board_33 (by decide) (fun y33 he33 => ?_)
      refine J_istore_n dX7_board_34 rfl (by decide) ?_
      obtain ⟨n35trh, f35trh, hA35trh, hN35trh, hM35trh, hv35trh⟩ := WT_arrI (r := (0, 1)) hW id rfl hb_rh
      obtain rfl := hM35trh 36 rfl
      clear hN35trh hM35trh
      have L35 : ∀ (N : Nat) (V : jH) (i3n35 : Int32) (F43n35 : Nat → Int32), WT V → jeff [.inr 5, .inl 43] V0 V → (jis V (.inr 5) a0) → (jis V (.inl 43) rh) → (jkc 5 [0] V0 V) → (V a0 = some (.inr (5, fs30))) → (jokO V (jFs 5) fs30) → (V rh = some (.inl (43, 36, .inl F43n35))) → (0 ≤ i3n35.toInt) → (∀ j : Nat, (j : Int) < i3n35.toInt → (F43n35 j).toInt = 0) → (300 - i3n35.toInt).toNat < N → J tS mX7_board d 35 [some (.ref a0), some (.int x1), some (.int x2), some (.int i3n35)] [] V 0 0 (fun r V => (jPost [.inr 5, .inl 43] V0 (fun r _ => ∃ y : Int32, r = some (.int y) ∧ ((-2147483648) ≤ y.toInt) ∧ (y.toInt ≤ 2147483647) ∧ (y.toInt = 1))) r V ∧ (∃ G : Nat → Int32, V rh = some (.inl (43, 36, .inl G)) ∧ ∀ j : Nat, j < 36 → (G j).toInt = 0) ∧ jkc 5 [0] V0 V ∧ (∃ w2 : Int32, jfI V a0 5 23 w2 ∧ (w2.toInt = x1.toInt)) ∧ (∃ h2 : Int32, jfI V a0 5 24 h2 ∧ (h2.toInt = x2.toInt)) ∧ (∃ c26 : Int32, jfI V a0 5 26 c26 ∧ (c26.toInt = 0))) := by
        intro N
        induction N with
        | zero => intro V i3n35 F43n35 hW he ha0 hb_rh hkp hO30 hK30 hAF43n35 hi3 hz hm; exact absurd hm (Nat.not_lt_zero _)
        | succ N ih =>
          intro V i3n35 F43n35 hW he ha0 hb_rh hkp hO30 hK30 hAF43n35 hi3 hz hm
          have ih35 := ih
          have hri3 := j_rng i3n35
          obtain ⟨hNF43n35, hvF43n35⟩ := WT_rngI (r := (0, 1)) hW id rfl hAF43n35
          clear hNF43n35
          refine J_iload_n dX7_board_35 rfl ?_
          refine Jz_bipush 36 dX7_board_36 (by decide) (fun y36 he36 => ?_)
          refine Jz_icmp_ge (tgt := 54) jEq.rf he36 dX7_board_38 (by decide) (fun c38 => ?_) (fun c38 => ?_)
          · refine J_aload_n dX7_board_54 rfl ?_
            refine Jz_iconst 0 dX7_board_55 (by decide) (fun y55 he55 => ?_)
            refine Jz_putI hO30 hW id rfl jf_X7_214 jt_X7_26 he55 dX7_board_56 (by omega) (by omega) (fun _ h => ⟨nar_b (by omega) (by omega), fit_b (by omega) (by omega)⟩) (fun V56 fs56 hW hx56 hO56 hS56 hT56 hB56 => ?_)
            have hK56 : jokO _ (jFs 5) fs56 := hW _ _ id hO56
            have hF56_24 := (hT56 24 (by decide)).trans hS30
            have hF56_23 := (hT56 23 (by decide)).trans hF30_23
            have hF56_25 := (hT56 25 (by decide)).trans hF30_25
            have he := he.trans (hx56.sub (jsub_of rfl))
            have hkp := hkp.trans (jkc.put hO30 hO56 hT56 hB56 (by decide))
            have ha0 := ha0.mono hx56.1
            have hb_rh := hb_rh.mono hx56.1
            have hAF43n35 := hx56.2 _ _ hAF43n35 (jnot_of rfl)
            refine Jz_iconst 1 dX7_board_59 (by decide) (fun y59 he59 => ?_)
            exact J_ret (r := some (.int _)) dX7_board_60 ⟨rfl, _, rfl, rfl⟩ (⟨⟨hW, he, ⟨_, rfl, (j_rng _).1, (j_rng _).2, (by (try simp only [he59.eq, true_and, and_true]) <;> omega)⟩⟩, ⟨F43n35, hAF43n35, fun j hj => hz j (by omega)⟩, hkp, ⟨_, ⟨_, hO56, hF56_23⟩, (by omega)⟩, ⟨_, ⟨_, hO56, hF56_24⟩, (by omega)⟩, ⟨_, ⟨_, hO56, hS56⟩, (by (try simp only [he55.eq, true_and, and_true]) <;> omega)⟩⟩)
          · refine J_aload_n dX7_board_41 rfl ?_
            refine J_get jf_X7_80 dX7_board_42 hO30 hF30_25 ?_
            refine J_iload_n dX7_board_45 rfl ?_
            refine Jz_iconst 0 dX7_board_46 (by decide) (fun y46 he46 => ?_)
            refine Jz_zast (r := (0, 1)) jEq.rf he46 hW id dX7_board_47 hAF43n35 rfl rfl (by omega) (by omega) (by omega) (by omega) (fun _ h => vp_nar_b (by omega) (by omega)) (fun V47 G47 hW hx47 hA47 hp47 ho47 => ?_)
            obtain ⟨hN47, hv47⟩ := WT_rngI (r := (0, 1)) hW id rfl hA47
            clear hN47
            have he := he.trans (hx47.sub (jsub_of rfl))
            have hkp := hkp.trans (jkc.of hx47 (jnot_of rfl))
            have ha0 := ha0.mono hx47.1
            have hb_rh := hb_rh.mono hx47.1
            have hO30 := hx47.2 _ _ hO30 (jnot_of rfl)
            have hK30 := hK30.mono hx47.1
            refine Jz_iinc 1 dX7_board_48 rfl rfl (by decide) jEq.rf (by decide) (by omega) (by omega) (fun y48 he48 => ?_)
            refine J_goto (tgt := 35) dX7_board_51 (by decide) ?_
            refine J.mask [true, true, true, true] ?_
            exact ih35 _ y48 G47 hW he ha0 hb_rh hkp hO30 hK30 hA47 (by (try simp only [he48.eq, true_and, and_true]) <;> omega) (fun j hj => by rw [he48.eq] at hj; exact (Nat.decEq j i3n35.toInt.toNat).byCases (fun hq => by rw [hq, hp47, he46.eq]) (fun hq => by rw [ho47 j hq]; exact hz j (by omega))) (by (try simp only [he48.eq, true_and, and_true]) <;> omega)
      refine J.mask [true, true, true, true] ?_
      exact L35 _ _ y33 f35trh hW he ha0 hb_rh hkp hO30 hK30 hA35trh (by (try simp only [he33.eq, true_and, and_true]) <;> omega) (fun j hj => by rw [he33.eq] at hj; omega) (Nat.lt_succ_self _)
    · have q17_1 := hI14_1.of (by omega)
      try simp only [he11.eq, he12.eq] at q17_1
      exact False.elim (by omega)
set_option maxRecDepth 100000 in
set_option maxHeartbeats 8000000 in
theorem w_X7_open_z {tS : jTS} (d : Nat) (V0 : jH) (a0 : Nat) (wd : Int32) (hg : Int32) (rh : Nat) (H43 : Nat → Int32) (hd : 0 ≤ d) (hW : WT V0) (ha0 : jis V0 (.inr 5) a0) (hf_wd : jfI V0 a0 5 23 wd) (hf_hg : jfI V0 a0 5 24 hg) (hr_rh : jfR V0 a0 5 25 rh) (ha_H43 : V0 rh = some (.inl (43, 36, .inl H43))) (hp0 : 2 ≤ wd.toInt) (hp1 : wd.toInt ≤ 6) (hp2 : 2 ≤ hg.toInt) (hp3 : hg.toInt ≤ 6) : jTot tS mX7_open d [.ref a0] V0 0 0 (fun r V => (fun r _ => ∃ y : Int32, r = some (.int y) ∧ ((-2147483648) ≤ y.toInt) ∧ (y.toInt ≤ 2147483647) ∧ (y.toInt = ((jcn 1 H43 (wd.toInt * hg.toInt).toNat : Nat) : Int))) r V ∧ V = V0) := by
  refine jTot.of_J [some (.ref a0), none, none] moX7_open (Nat.le_of_ble_eq_true rfl) rfl ?_
  have he : jeff [] V0 V0 := jeff.refl _ _
  obtain ⟨fs_a0, hO_a0, hK_a0⟩ := WT_obj hW id ha0
  have hF_wd := hf_wd.get hO_a0
  have hrwd : 2 ≤ wd.toInt ∧ wd.toInt ≤ 6 := jok_rngI hK_a0 rfl hF_wd
  have hF_hg := hf_hg.get hO_a0
  have hrhg : 2 ≤ hg.toInt ∧ hg.toInt ≤ 6 := jok_rngI hK_a0 rfl hF_hg
  have hF_rh := hr_rh.get hO_a0
  obtain ⟨w_rh, hFq_rh, b_rh, hbq_rh, hb_rh⟩ := hK_a0.2 25 (.inr (some (.inl 43))) rfl
  cases hF_rh.symm.trans (hFq_rh.trans (congrArg some hbq_rh))
  obtain ⟨hN_H43, hv_H43⟩ := WT_rngI (r := (0, 1)) hW id rfl ha_H43
  clear hN_H43
  refine Jz_iconst 0 dX7_open_0 (by decide) (fun y0 he0 => ?_)
  refine J_istore_n dX7_open_1 rfl (by decide) ?_
  refine Jz_iconst 0 dX7_open_2 (by decide) (fun y2 he2 => ?_)
  refine J_istore_n dX7_open_3 rfl (by decide) ?_
  have L4 : ∀ (N : Nat) (i1n4 : Int32) (i2n4 : Int32), (0 ≤ i2n4.toInt ∧ i2n4.toInt ≤ wd.toInt * hg.toInt) → (i1n4.toInt = ((jcn 1 H43 i2n4.toInt.toNat : Nat) : Int)) → (300 - i2n4.toInt).toNat < N → J tS mX7_open d 4 [some (.ref a0), some (.int i1n4), some (.int i2n4)] [] V0 0 0 (fun r V => (fun r _ => ∃ y : Int32, r = some (.int y) ∧ ((-2147483648) ≤ y.toInt) ∧ (y.toInt ≤ 2147483647) ∧ (y.toInt = ((jcn 1 H43 (wd.toInt * hg.toInt).toNat : Nat) : Int))) r V ∧ V = V0) := by
    intro N
    induction N with
    | zero => intro i1n4 i2n4  hi2 hc hm; exact absurd hm (Nat.not_lt_zero _)
    | succ N ih =>
      intro i1n4 i2n4  hi2 hc hm
      have ih4 := ih
      have hri2 := j_rng i2n4
      have hm2 := Int.mul_nonneg (show 0 ≤ wd.toInt by omega) (show 0 ≤ hg.toInt by omega)
      have hm3 := Int.mul_le_mul_of_nonneg_left (show hg.toInt ≤ 6 by omega) (show 0 ≤ wd.toInt by omega)
      have hjl := jcn_le (c := 1) (F := H43) i2n4.toInt.toNat
      refine J_iload_n dX7_open_4 rfl ?_
      refine J_aload_n dX7_open_5 rfl ?_
      refine J_get jf_X7_73 dX7_open_6 hO_a0 hF_wd ?_
      refine J_aload_n dX7_open_9 rfl ?_
      refine J_get jf_X7_77 dX7_open_10 hO_a0 hF_hg ?_
      refine Jz_imul jEq.rf jEq.rf dX7_open_13 (by omega) (by omega) (fun y13 he13 => ?_)
      refine Jz_icmp_ge (tgt := 40) jEq.rf he13 dX7_open_14 (by decide) (fun c14 => ?_) (fun c14 => ?_)
      · refine J_iload_n dX7_open_40 rfl ?_
        exact J_ret (r := some (.int _)) dX7_open_41 ⟨rfl, _, rfl, rfl⟩ (⟨⟨_, rfl, (j_rng _).1, (j_rng _).2, (by rw [show wd.toInt * hg.toInt = i2n4.toInt by omega]; exact hc)⟩, rfl⟩)
      · refine J_iload_n dX7_open_17 rfl ?_
        refine J_aload_n dX7_open_18 rfl ?_
        refine J_get jf_X7_80 dX7_open_19 hO_a0 hF_rh ?_
        refine J_iload_n dX7_open_22 rfl ?_
        refine Jz_zald (r := (0, 1)) jEq.rf dX7_open_23 ha_H43 rfl hv_H43 (by omega) (by omega) (fun y23 hf23 hl23 hh23 => ?_)
        dsimp only at hl23 hh23
        refine Jz_if_eq (tgt := 31) jEq.rf dX7_open_24 (by decide) (fun c24 => ?_) (fun c24 => ?_)
        · refine Jz_iconst 1 dX7_open_31 (by decide) (fun y31 he31 => ?_)
          refine Jz_iadd jEq.rf he31 dX7_open_32 (by omega) (by omega) (fun y32 he32 => ?_)
          refine J_istore_n dX7_open_33 rfl (by decide) ?_
          refine Jz_iinc 1 dX7_open_34 rfl rfl (by decide) jEq.rf (by decide) (by omega) (by omega) (fun y34 he34 => ?_)
          refine J_goto (tgt := 4) dX7_open_37 (by decide) ?_
          refine J.mask [true, true, true] ?_
          exact ih4  y32 y34  (by (try simp only [he32.eq, he34.eq, true_and, and_true]) <;> omega) (by rw [he32.eq, he34.eq, show (i2n4.toInt + 1).toNat = i2n4.toInt.toNat + 1 by omega, show jcn 1 H43 (i2n4.toInt.toNat + 1) = jcn 1 H43 i2n4.toInt.toNat + (if (H43 i2n4.toInt.toNat).toInt = 1 then 0 else 1) from rfl, if_neg (by rw [hf23]; omega)]; omega) (by (try simp only [he32.eq, he34.eq, true_and, and_true]) <;> omega)
        · refine Jz_iconst 0 dX7_open_27 (by decide) (fun y27 he27 => ?_)
          refine J_goto (tgt := 32) dX7_open_28 (by decide) ?_
          refine Jz_iadd jEq.rf he27 dX7_open_32 (by omega) (by omega) (fun y32 he32 => ?_)
          refine J_istore_n dX7_open_33 rfl (by decide) ?_
          refine Jz_iinc 1 dX7_open_34 rfl rfl (by decide) jEq.rf (by decide) (by omega) (by omega) (fun y34 he34 => ?_)
          refine J_goto (tgt := 4) dX7_open_37 (by decide) ?_
          refine J.mask [true, true, true] ?_
          exact ih4  y32 y34  (by (try simp only [he32.eq, he34.eq, true_and, and_true]) <;> omega) (by rw [he32.eq, he34.eq, show (i2n4.toInt + 1).toNat = i2n4.toInt.toNat + 1 by omega, show jcn 1 H43 (i2n4.toInt.toNat + 1) = jcn 1 H43 i2n4.toInt.toNat + (if (H43 i2n4.toInt.toNat).toInt = 1 then 0 else 1) from rfl, if_pos (by rw [hf23]; omega)]; omega) (by (try simp only [he32.eq, he34.eq, true_and, and_true]) <;> omega)
  refine J.mask [true, true, true] ?_
  exact L4 _  y0 y2    (by rw [he2.eq]; have hm2 := Int.mul_nonneg (show 0 ≤ wd.toInt by omega) (show 0 ≤ hg.toInt by omega); omega) (by rw [he0.eq, he2.eq]; rfl) (Nat.lt_succ_self _)
set_option maxRecDepth 100000 in
set_option maxHeartbeats 8000000 in
theorem w_X7_stepX_z {tS : jTS} (d : Nat) (V0 : jH) (x0 : Int32) (x1 : Int32) (hd : 0 ≤ d)  (hp0 : 0 ≤ x0.toInt) (hp1 : x0.toInt ≤ 3) : jTot tS mX7_stepX d [.int x0, .int x1] V0 0 0 (fun r V => (fun r _ => ∃ y : Int32, r = some (.int y) ∧ ((-1) ≤ y.toInt) ∧ (y.toInt ≤ 1) ∧ (y.toInt = jsx x0.toInt x1.toInt)) r V ∧ V = V0) := by
  refine jTot.of_J [some (.int x0), some (.int x1)] moX7_stepX (Nat.le_of_ble_eq_true rfl) rfl ?_
  have hrx0 := j_rng x0
  have hrx1 := j_rng x1
  refine J_iload_n dX7_stepX_0 rfl ?_
  rcases jsw2 x0 with hx1 | hx1 | hx1 | hx1 | hx1
  · have hx1t : x0.toInt = 0 := by rw [hx1]; rfl
    clear hx1
    refine J_tableIn (tgt := 28) dX7_stepX_1 (by omega) (by omega) (by rw [hx1t]; rfl) (by decide) ?_
    refine J_iload_n dX7_stepX_28 rfl ?_
    refine Jz_if_ne (tgt := 36) jEq.rf dX7_stepX_29 (by decide) (fun c29 => ?_) (fun c29 => ?_)
    · refine J_iload_n dX7_stepX_36 rfl ?_
      refine Jz_iconst 2 dX7_stepX_37 (by decide) (fun y37 he37 => ?_)
      refine Jz_icmp_ne (tgt := 45) jEq.rf he37 dX7_stepX_38 (by decide) (fun c38 => ?_) (fun c38 => ?_)
      · refine Jz_iconst 0 dX7_stepX_45 (by decide) (fun y45 he45 => ?_)
        exact J_ret (r := some (.int _)) dX7_stepX_46 ⟨rfl, _, rfl, rfl⟩ (⟨⟨_, rfl, (by (try simp only [he45.eq, true_and, and_true]) <;> omega), (by (try simp only [he45.eq, true_and, and_true]) <;> omega), (by first | ((try simp only [he45.eq, true_and, and_true]) <;> omega) | ((try simp only [he45.eq]); unfold jsx; (repeat' split) <;> omega))⟩, rfl⟩)
      · refine Jz_iconst (-1) dX7_stepX_41 (by decide) (fun y41 he41 => ?_)
        refine J_goto (tgt := 46) dX7_stepX_42 (by decide) ?_
        exact J_ret (r := some (.int _)) dX7_stepX_46 ⟨rfl, _, rfl, rfl⟩ (⟨⟨_, rfl, (by (try simp only [he41.eq, true_and, and_true]) <;> omega), (by (try simp only [he41.eq, true_and, and_true]) <;> omega), (by first | ((try simp only [he41.eq, true_and, and_true]) <;> omega) | ((try simp only [he41.eq]); unfold jsx; (repeat' split) <;> omega))⟩, rfl⟩)
    · refine Jz_iconst 1 dX7_stepX_32 (by decide) (fun y32 he32 => ?_)
      refine J_goto (tgt := 46) dX7_stepX_33 (by decide) ?_
      exact J_ret (r := some (.int _)) dX7_stepX_46 ⟨rfl, _, rfl, rfl⟩ (⟨⟨_, rfl, (by (try simp only [he32.eq, true_and, and_true]) <;> omega), (by (try simp only [he32.eq, true_and, and_true]) <;> omega), (by first | ((try simp only [he32.eq, true_and, and_true]) <;> omega) | ((try simp only [he32.eq]); unfold jsx; (repeat' split) <;> omega))⟩, rfl⟩)
  · have hx1t : x0.toInt = 1 := by rw [hx1]; rfl
    clear hx1
    refine J_tableIn (tgt := 47) dX7_stepX_1 (by omega) (by omega) (by rw [hx1t]; rfl) (by decide) ?_
    refine J_iload_n dX7_stepX_47 rfl ?_
    refine Jz_if_eq (tgt := 56) jEq.rf dX7_stepX_48 (by decide) (fun c48 => ?_) (fun c48 => ?_)
    · refine Jz_iconst 1 dX7_stepX_56 (by decide) (fun y56 he56 => ?_)
      refine J_goto (tgt := 75) dX7_stepX_57 (by decide) ?_
      exact J_ret (r := some (.int _)) dX7_stepX_75 ⟨rfl, _, rfl, rfl⟩ (⟨⟨_, rfl, (by (try simp only [he56.eq, true_and, and_true]) <;> omega), (by (try simp only [he56.eq, true_and, and_true]) <;> omega), (by first | ((try simp only [he56.eq, true_and, and_true]) <;> omega) | ((try simp only [he56.eq]); unfold jsx; (repeat' split) <;> omega))⟩, rfl⟩)
    · refine J_iload_n dX7_stepX_51 rfl ?_
      refine Jz_iconst 5 dX7_stepX_52 (by decide) (fun y52 he52 => ?_)
      refine Jz_icmp_ne (tgt := 60) jEq.rf he52 dX7_stepX_53 (by decide) (fun c53 => ?_) (fun c53 => ?_)
      · refine J_iload_n dX7_stepX_60 rfl ?_
        refine Jz_iconst 2 dX7_stepX_61 (by decide) (fun y61 he61 => ?_)
        refine Jz_icmp_eq (tgt := 70) jEq.rf he61 dX7_stepX_62 (by decide) (fun c62 => ?_) (fun c62 => ?_)
        · refine Jz_iconst (-1) dX7_stepX_70 (by decide) (fun y70 he70 => ?_)
          refine J_goto (tgt := 75) dX7_stepX_71 (by decide) ?_
          exact J_ret (r := some (.int _)) dX7_stepX_75 ⟨rfl, _, rfl, rfl⟩ (⟨⟨_, rfl, (by (try simp only [he70.eq, true_and, and_true]) <;> omega), (by (try simp only [he70.eq, true_and, and_true]) <;> omega), (by first | ((try simp only [he70.eq, true_and, and_true]) <;> omega) | ((try simp only [he70.eq]); unfold jsx; (repeat' split) <;> omega))⟩, rfl⟩)
        · refine J_iload_n dX7_stepX_65 rfl ?_
          refine Jz_iconst 3 dX7_stepX_66 (by decide) (fun y66 he66 => ?_)
          refine Jz_icmp_ne (tgt := 74) jEq.rf he66 dX7_stepX_67 (by decide) (fun c67 => ?_) (fun c67 => ?_)
          · refine Jz_iconst 0 dX7_stepX_74 (by decide) (fun y74 he74 => ?_)
            exact J_ret (r := some (.int _)) dX7_stepX_75 ⟨rfl, _, rfl, rfl⟩ (⟨⟨_, rfl, (by (try simp only [he74.eq, true_and, and_true]) <;> omega), (by (try simp only [he74.eq, true_and, and_true]) <;> omega), (by first | ((try simp only [he74.eq, true_and, and_true]) <;> omega) | ((try simp only [he74.eq]); unfold jsx; (repeat' split) <;> omega))⟩, rfl⟩)
          · refine Jz_iconst (-1) dX7_stepX_70 (by decide) (fun y70 he70 => ?_)
            refine J_goto (tgt := 75) dX7_stepX_71 (by decide) ?_
            exact J_ret (r := some (.int _)) dX7_stepX_75 ⟨rfl, _, rfl, rfl⟩ (⟨⟨_, rfl, (by (try simp only [he70.eq, true_and, and_true]) <;> omega), (by (try simp only [he70.eq, true_and, and_true]) <;> omega), (by first | ((try simp only [he70.eq, true_and, and_true]) <;> omega) | ((try simp only [he70.eq]); unfold jsx; (repeat' split) <;> omega))⟩, rfl⟩)
      · refine Jz_iconst 1 dX7_stepX_56 (by decide) (fun y56 he56 => ?_)
        refine J_goto (tgt := 75) dX7_stepX_57 (by decide) ?_
        exact J_ret (r := some (.int _)) dX7_stepX_75 ⟨rfl, _, rfl, rfl⟩ (⟨⟨_, rfl, (by (try simp only [he56.eq, true_and, and_true]) <;> omega), (by (try simp only [he56.eq, true_and, and_true]) <;> omega), (by first | ((try simp only [he56.eq, true_and, and_true]) <;> omega) | ((try simp only [he56.eq]); unfold jsx; (repeat' split) <;> omega))⟩, rfl⟩)
  · have hx1t : x0.toInt = 2 := by rw [hx1]; rfl
    clear hx1
    refine J_tableIn (tgt := 76) dX7_stepX_1 (by omega) (by omega) (by rw [hx1t]; rfl) (by decide) ?_
    refine J_iload_n dX7_stepX_76 rfl ?_
    refine Jz_if_ne (tgt := 84) jEq.rf dX7_stepX_77 (by decide) (fun c77 => ?_) (fun c77 => ?_)
    · refine J_iload_n dX7_stepX_84 rfl ?_
      refine Jz_iconst 1 dX7_stepX_85 (by decide) (fun y85 he85 => ?_)
      refine Jz_icmp_ne (tgt := 93) jEq.rf he85 dX7_stepX_86 (by decide) (fun c86 => ?_) (fun c86 => ?_)
      · refine Jz_iconst 0 dX7_stepX_93 (by decide) (fun y93 he93 => ?_)
        exact J_ret (r := some (.int _)) dX7_stepX_94 ⟨rfl, _, rfl, rfl⟩ (⟨⟨_, rfl, (by (try simp only [he93.eq, true_and, and_true]) <;> omega), (by (try simp only [he93.eq, true_and, and_true]) <;> omega), (by first | ((try simp only [he93.eq, true_and, and_true]) <;> omega) | ((try simp only [he93.eq]); unfold jsx; (repeat' split) <;> omega))⟩, rfl⟩)
      · refine Jz_iconst (-1) dX7_stepX_89 (by decide) (fun y89 he89 => ?_)
        refine J_goto (tgt := 94) dX7_stepX_90 (by decide) ?_
        exact J_ret (r := some (.int _)) dX7_stepX_94 ⟨rfl, _, rfl, rfl⟩ (⟨⟨_, rfl, (by (try simp only [he89.eq, true_and, and_true]) <;> omega), (by (try simp only [he89.eq, true_and, and_true]) <;> omega), (by first | ((try simp only [he89.eq, true_and, and_true]) <;> omega) | ((try simp only [he89.eq]); unfold jsx; (repeat' split) <;> omega))⟩, rfl⟩)
    · refine Jz_iconst 1 dX7_stepX_80 (by decide) (fun y80 he80 => ?_)
      refine J_goto (tgt := 94) dX7_stepX_81 (by decide) ?_
      exact J_ret (r := some (.int _)) dX7_stepX_94 ⟨rfl, _, rfl, rfl⟩ (⟨⟨_, rfl, (by (try simp only [he80.eq, true_and, and_true]) <;> omega), (by (try simp only [he80.eq, true_and, and_true]) <;> omega), (by first | ((try simp only [he80.eq, true_and, and_true]) <;> omega) | ((try simp only [he80.eq]); unfold jsx; (repeat' split) <;> omega))⟩, rfl⟩)
  · refine J_tableOut (tgt := 95) dX7_stepX_1 (Or.inl hx1) (by decide) ?_
    refine J_iload_n dX7_stepX_95 rfl ?_
    refine Jz_if_ne (tgt := 103) jEq.rf dX7_stepX_96 (by decide) (fun c96 => ?_) (fun c96 => ?_)
    · refine J_iload_n dX7_stepX_103 rfl ?_
      refine Jz_iconst 3 dX7_stepX_104 (by decide) (fun y104 he104 => ?_)
      refine Jz_icmp_ne (tgt := 112) jEq.rf he104 dX7_stepX_105 (by decide) (fun c105 => ?_) (fun c105 => ?_)
      · refine Jz_iconst 0 dX7_stepX_112 (by decide) (fun y112 he112 => ?_)
        exact J_ret (r := some (.int _)) dX7_stepX_113 ⟨rfl, _, rfl, rfl⟩ (⟨⟨_, rfl, (by (try simp only [he112.eq, true_and, and_true]) <;> omega), (by (try simp only [he112.eq, true_and, and_true]) <;> omega), (by first | ((try simp only [he112.eq, true_and, and_true]) <;> omega) | ((try simp only [he112.eq]); unfold jsx; (repeat' split) <;> omega))⟩, rfl⟩)
      · refine Jz_iconst (-1) dX7_stepX_108 (by decide) (fun y108 he108 => ?_)
        refine J_goto (tgt := 113) dX7_stepX_109 (by decide) ?_
        exact J_ret (r := some (.int _)) dX7_stepX_113 ⟨rfl, _, rfl, rfl⟩ (⟨⟨_, rfl, (by (try simp only [he108.eq, true_and, and_true]) <;> omega), (by (try simp only [he108.eq, true_and, and_true]) <;> omega), (by first | ((try simp only [he108.eq, true_and, and_true]) <;> omega) | ((try simp only [he108.eq]); unfold jsx; (repeat' split) <;> omega))⟩, rfl⟩)
    · refine Jz_iconst 1 dX7_stepX_99 (by decide) (fun y99 he99 => ?_)
      refine J_goto (tgt := 113) dX7_stepX_100 (by decide) ?_
      exact J_ret (r := some (.int _)) dX7_stepX_113 ⟨rfl, _, rfl, rfl⟩ (⟨⟨_, rfl, (by (try simp only [he99.eq, true_and, and_true]) <;> omega), (by (try simp only [he99.eq, true_and, and_true]) <;> omega), (by first | ((try simp only [he99.eq, true_and, and_true]) <;> omega) | ((try simp only [he99.eq]); unfold jsx; (repeat' split) <;> omega))⟩, rfl⟩)
  · refine J_tableOut (tgt := 95) dX7_stepX_1 (Or.inr hx1) (by decide) ?_
    refine J_iload_n dX7_stepX_95 rfl ?_
    refine Jz_if_ne (tgt := 103) jEq.rf dX7_stepX_96 (by decide) (fun c96 => ?_) (fun c96 => ?_)
    · refine J_iload_n dX7_stepX_103 rfl ?_
      refine Jz_iconst 3 dX7_stepX_104 (by decide) (fun y104 he104 => ?_)
      refine Jz_icmp_ne (tgt := 112) jEq.rf he104 dX7_stepX_105 (by decide) (fun c105 => ?_) (fun c105 => ?_)
      · refine Jz_iconst 0 dX7_stepX_112 (by decide) (fun y112 he112 => ?_)
        exact J_ret (r := some (.int _)) dX7_stepX_113 ⟨rfl, _, rfl, rfl⟩ (⟨⟨_, rfl, (by (try simp only [he112.eq, true_and, and_true]) <;> omega), (by (try simp only [he112.eq, true_and, and_true]) <;> omega), (by first | ((try simp only [he112.eq, true_and, and_true]) <;> omega) | ((try simp only [he112.eq]); unfold jsx; (repeat' split) <;> omega))⟩, rfl⟩)
      · refine Jz_iconst (-1) dX7_stepX_108 (by decide) (fun y108 he108 => ?_)
        refine J_goto (tgt := 113) dX7_stepX_109 (by decide) ?_
        exact J_ret (r := some (.int _)) dX7_stepX_113 ⟨rfl, _, rfl, rfl⟩ (⟨⟨_, rfl, (by (try simp only [he108.eq, true_and, and_true]) <;> omega), (by (try simp only [he108.eq, true_and, and_true]) <;> omega), (by first | ((try simp only [he108.eq, true_and, and_true]) <;> omega) | ((try simp only [he108.eq]); unfold jsx; (repeat' split) <;> omega))⟩, rfl⟩)
    · refine Jz_iconst 1 dX7_stepX_99 (by decide) (fun y99 he99 => ?_)
      refine J_goto (tgt := 113) dX7_stepX_100 (by decide) ?_
      exact J_ret (r := some (.int _)) dX7_stepX_113 ⟨rfl, _, rfl, rfl⟩ (⟨⟨_, rfl, (by (try simp only [he99.eq, true_and, and_true]) <;> omega), (by (try simp only [he99.eq, true_and, and_true]) <;> omega), (by first | ((try simp only [he99.eq, true_and, and_true]) <;> omega) | ((try simp only [he99.eq]); unfold jsx; (repeat' split) <;> omega))⟩, rfl⟩)
set_option maxRecDepth 100000 in
set_option maxHeartbeats 8000000 in
theorem w_X7_stepY_z {tS : jTS} (d : Nat) (V0 : jH) (x0 : Int32) (x1 : Int32) (x2 : Int32) (hd : 0 ≤ d)  (hp0 : 0 ≤ x0.toInt) (hp1 : x0.toInt ≤ 3) : jTot tS mX7_stepY d [.int x0, .int x1, .int x2] V0 0 0 (fun r V => (fun r _ => ∃ y : Int32, r = some (.int y) ∧ ((-1) ≤ y.toInt) ∧ (y.toInt ≤ 1) ∧ (y.toInt = jsy x0.toInt x1.toInt x2.toInt)) r V ∧ V = V0) := by
  refine jTot.of_J [some (.int x0), some (.int x1), some (.int x2)] moX7_stepY (Nat.le_of_ble_eq_true rfl) rfl ?_
  have hrx0 := j_rng x0
  have hrx1 := j_rng x1
  have hrx2 := j_rng x2
  refine J_iload_n dX7_stepY_0 rfl ?_
  rcases jsw2 x0 with hx1 | hx1 | hx1 | hx1 | hx1
  · have hx1t : x0.toInt = 0 := by rw [hx1]; rfl
    clear hx1
    refine J_tableIn (tgt := 28) dX7_stepY_1 (by omega) (by omega) (by rw [hx1t]; rfl) (by decide) ?_
    refine J_iload_n dX7_stepY_28 rfl ?_
    refine Jz_iconst 1 dX7_stepY_29 (by decide) (fun y29 he29 => ?_)
    refine Jz_icmp_ne (tgt := 37) jEq.rf he29 dX7_stepY_30 (by decide) (fun c30 => ?_) (fun c30 => ?_)
    · refine J_iload_n dX7_stepY_37 rfl ?_
      refine Jz_iconst 3 dX7_stepY_38 (by decide) (fun y38 he38 => ?_)
      refine Jz_icmp_ne (tgt := 46) jEq.rf he38 dX7_stepY_39 (by decide) (fun c39 => ?_) (fun c39 => ?_)
      · refine Jz_iconst 0 dX7_stepY_46 (by decide) (fun y46 he46 => ?_)
        exact J_ret (r := some (.int _)) dX7_stepY_47 ⟨rfl, _, rfl, rfl⟩ (⟨⟨_, rfl, (by (try simp only [he46.eq, true_and, and_true]) <;> omega), (by (try simp only [he46.eq, true_and, and_true]) <;> omega), (by first | ((try simp only [he46.eq, true_and, and_true]) <;> omega) | ((try simp only [he46.eq]); unfold jsy; (repeat' split) <;> omega))⟩, rfl⟩)
      · refine Jz_iconst (-1) dX7_stepY_42 (by decide) (fun y42 he42 => ?_)
        refine J_goto (tgt := 47) dX7_stepY_43 (by decide) ?_
        exact J_ret (r := some (.int _)) dX7_stepY_47 ⟨rfl, _, rfl, rfl⟩ (⟨⟨_, rfl, (by (try simp only [he42.eq, true_and, and_true]) <;> omega), (by (try simp only [he42.eq, true_and, and_true]) <;> omega), (by first | ((try simp only [he42.eq, true_and, and_true]) <;> omega) | ((try simp only [he42.eq]); unfold jsy; (repeat' split) <;> omega))⟩, rfl⟩)
    · refine Jz_iconst 1 dX7_stepY_33 (by decide) (fun y33 he33 => ?_)
      refine J_goto (tgt := 47) dX7_stepY_34 (by decide) ?_
      exact J_ret (r := some (.int _)) dX7_stepY_47 ⟨rfl, _, rfl, rfl⟩ (⟨⟨_, rfl, (by (try simp only [he33.eq, true_and, and_true]) <;> omega), (by (try simp only [he33.eq, true_and, and_true]) <;> omega), (by first | ((try simp only [he33.eq, true_and, and_true]) <;> omega) | ((try simp only [he33.eq]); unfold jsy; (repeat' split) <;> omega))⟩, rfl⟩)
  · have hx1t : x0.toInt = 1 := by rw [hx1]; rfl
    clear hx1
    refine J_tableIn (tgt := 48) dX7_stepY_1 (by omega) (by omega) (by rw [hx1t]; rfl) (by decide) ?_
    refine J_iload_n dX7_stepY_48 rfl ?_
    refine Jz_iconst 1 dX7_stepY_49 (by decide) (fun y49 he49 => ?_)
    refine Jz_icmp_eq (tgt := 58) jEq.rf he49 dX7_stepY_50 (by decide) (fun c50 => ?_) (fun c50 => ?_)
    · refine Jz_iconst 1 dX7_stepY_58 (by decide) (fun y58 he58 => ?_)
      refine J_goto (tgt := 77) dX7_stepY_59 (by decide) ?_
      exact J_ret (r := some (.int _)) dX7_stepY_77 ⟨rfl, _, rfl, rfl⟩ (⟨⟨_, rfl, (by (try simp only [he58.eq, true_and, and_true]) <;> omega), (by (try simp only [he58.eq, true_and, and_true]) <;> omega), (by first | ((try simp only [he58.eq, true_and, and_true]) <;> omega) | ((try simp only [he58.eq]); unfold jsy; (repeat' split) <;> omega))⟩, rfl⟩)
    · refine J_iload_n dX7_stepY_53 rfl ?_
      refine Jz_iconst 2 dX7_stepY_54 (by decide) (fun y54 he54 => ?_)
      refine Jz_icmp_ne (tgt := 62) jEq.rf he54 dX7_stepY_55 (by decide) (fun c55 => ?_) (fun c55 => ?_)
      · refine J_iload_n dX7_stepY_62 rfl ?_
        refine Jz_iconst 4 dX7_stepY_63 (by decide) (fun y63 he63 => ?_)
        refine Jz_icmp_eq (tgt := 72) jEq.rf he63 dX7_stepY_64 (by decide) (fun c64 => ?_) (fun c64 => ?_)
        · refine Jz_iconst (-1) dX7_stepY_72 (by decide) (fun y72 he72 => ?_)
          refine J_goto (tgt := 77) dX7_stepY_73 (by decide) ?_
          exact J_ret (r := some (.int _)) dX7_stepY_77 ⟨rfl, _, rfl, rfl⟩ (⟨⟨_, rfl, (by (try simp only [he72.eq, true_and, and_true]) <;> omega), (by (try simp only [he72.eq, true_and, and_true]) <;> omega), (by first | ((try simp only [he72.eq, true_and, and_true]) <;> omega) | ((try simp only [he72.eq]); unfold jsy; (repeat' split) <;> omega))⟩, rfl⟩)
        · refine J_iload_n dX7_stepY_67 rfl ?_
          refine Jz_iconst 5 dX7_stepY_68 (by decide) (fun y68 he68 => ?_)
          refine Jz_icmp_ne (tgt := 76) jEq.rf he68 dX7_stepY_69 (by decide) (fun c69 => ?_) (fun c69 => ?_)
          · refine Jz_iconst 0 dX7_stepY_76 (by decide) (fun y76 he76 => ?_)
            exact J_ret (r := some (.int _)) dX7_stepY_77 ⟨rfl, _, rfl, rfl⟩ (⟨⟨_, rfl, (by (try simp only [he76.eq, true_and, and_true]) <;> omega), (by (try simp only [he76.eq, true_and, and_true]) <;> omega), (by first | ((try simp only [he76.eq, true_and, and_true]) <;> omega) | ((try simp only [he76.eq]); unfold jsy; (repeat' split) <;> omega))⟩, rfl⟩)
          · refine Jz_iconst (-1) dX7_stepY_72 (by decide) (fun y72 he72 => ?_)
            refine J_goto (tgt := 77) dX7_stepY_73 (by decide) ?_
            exact J_ret (r := some (.int _)) dX7_stepY_77 ⟨rfl, _, rfl, rfl⟩ (⟨⟨_, rfl, (by (try simp only [he72.eq, true_and, and_true]) <;> omega), (by (try simp only [he72.eq, true_and, and_true]) <;> omega), (by first | ((try simp only [he72.eq, true_and, and_true]) <;> omega) | ((try simp only [he72.eq]); unfold jsy; (repeat' split) <;> omega))⟩, rfl⟩)
      · refine Jz_iconst 1 dX7_stepY_58 (by decide) (fun y58 he58 => ?_)
        refine J_goto (tgt := 77) dX7_stepY_59 (by decide) ?_
        exact J_ret (r := some (.int _)) dX7_stepY_77 ⟨rfl, _, rfl, rfl⟩ (⟨⟨_, rfl, (by (try simp only [he58.eq, true_and, and_true]) <;> omega), (by (try simp only [he58.eq, true_and, and_true]) <;> omega), (by first | ((try simp only [he58.eq, true_and, and_true]) <;> omega) | ((try simp only [he58.eq]); unfold jsy; (repeat' split) <;> omega))⟩, rfl⟩)
  · have hx1t : x0.toInt = 2 := by rw [hx1]; rfl
    clear hx1
    refine J_tableIn (tgt := 78) dX7_stepY_1 (by omega) (by omega) (by rw [hx1t]; rfl) (by decide) ?_
    refine J_iload_n dX7_stepY_78 rfl ?_
    refine Jz_iconst 2 dX7_stepY_79 (by decide) (fun y79 he79 => ?_)
    refine Jz_icmp_ge (tgt := 87) jEq.rf he79 dX7_stepY_80 (by decide) (fun c80 => ?_) (fun c80 => ?_)
    · refine J_iload_n dX7_stepY_87 rfl ?_
      refine Jz_iconst 1 dX7_stepY_88 (by decide) (fun y88 he88 => ?_)
      refine J_iand dX7_stepY_89 ?_
      have hz89 : jEq (x2 &&& y88).toInt ((x2.toInt) % 2) := by rw [show y88 = 1 from jI_inj.mp he88.eq, jand1 x2]; rfl
      generalize x2 &&& y88 = y89 at hz89 ⊢
      refine Jz_if_ne (tgt := 97) hz89 dX7_stepY_90 (by decide) (fun c90 => ?_) (fun c90 => ?_)
      · refine Jz_iconst (-1) dX7_stepY_97 (by decide) (fun y97 he97 => ?_)
        exact J_ret (r := some (.int _)) dX7_stepY_98 ⟨rfl, _, rfl, rfl⟩ (⟨⟨_, rfl, (by (try simp only [he97.eq, true_and, and_true]) <;> omega), (by (try simp only [he97.eq, true_and, and_true]) <;> omega), (by first | ((try simp only [he97.eq, true_and, and_true]) <;> omega) | ((try simp only [he97.eq]); unfold jsy; (repeat' split) <;> omega))⟩, rfl⟩)
      · refine Jz_iconst 1 dX7_stepY_93 (by decide) (fun y93 he93 => ?_)
        refine J_goto (tgt := 98) dX7_stepY_94 (by decide) ?_
        exact J_ret (r := some (.int _)) dX7_stepY_98 ⟨rfl, _, rfl, rfl⟩ (⟨⟨_, rfl, (by (try simp only [he93.eq, true_and, and_true]) <;> omega), (by (try simp only [he93.eq, true_and, and_true]) <;> omega), (by first | ((try simp only [he93.eq, true_and, and_true]) <;> omega) | ((try simp only [he93.eq]); unfold jsy; (repeat' split) <;> omega))⟩, rfl⟩)
    · refine Jz_iconst 0 dX7_stepY_83 (by decide) (fun y83 he83 => ?_)
      refine J_goto (tgt := 98) dX7_stepY_84 (by decide) ?_
      exact J_ret (r := some (.int _)) dX7_stepY_98 ⟨rfl, _, rfl, rfl⟩ (⟨⟨_, rfl, (by (try simp only [he83.eq, true_and, and_true]) <;> omega), (by (try simp only [he83.eq, true_and, and_true]) <;> omega), (by first | ((try simp only [he83.eq, true_and, and_true]) <;> omega) | ((try simp only [he83.eq]); unfold jsy; (repeat' split) <;> omega))⟩, rfl⟩)
  · refine J_tableOut (tgt := 99) dX7_stepY_1 (Or.inl hx1) (by decide) ?_
    refine J_iload_n dX7_stepY_99 rfl ?_
    refine Jz_iconst 1 dX7_stepY_100 (by decide) (fun y100 he100 => ?_)
    refine Jz_icmp_ne (tgt := 108) jEq.rf he100 dX7_stepY_101 (by decide) (fun c101 => ?_) (fun c101 => ?_)
    · refine J_iload_n dX7_stepY_108 rfl ?_
      refine Jz_iconst 4 dX7_stepY_109 (by decide) (fun y109 he109 => ?_)
      refine Jz_icmp_ne (tgt := 117) jEq.rf he109 dX7_stepY_110 (by decide) (fun c110 => ?_) (fun c110 => ?_)
      · refine Jz_iconst 0 dX7_stepY_117 (by decide) (fun y117 he117 => ?_)
        exact J_ret (r := some (.int _)) dX7_stepY_118 ⟨rfl, _, rfl, rfl⟩ (⟨⟨_, rfl, (by (try simp only [he117.eq, true_and, and_true]) <;> omega), (by (try simp only [he117.eq, true_and, and_true]) <;> omega), (by first | ((try simp only [he117.eq, true_and, and_true]) <;> omega) | ((try simp only [he117.eq]); unfold jsy; (repeat' split) <;> omega))⟩, rfl⟩)
      · refine Jz_iconst (-1) dX7_stepY_113 (by decide) (fun y113 he113 => ?_)
        refine J_goto (tgt := 118) dX7_stepY_114 (by decide) ?_
        exact J_ret (r := some (.int _)) dX7_stepY_118 ⟨rfl, _, rfl, rfl⟩ (⟨⟨_, rfl, (by (try simp only [he113.eq, true_and, and_true]) <;> omega), (by (try simp only [he113.eq, true_and, and_true]) <;> omega), (by first | ((try simp only [he113.eq, true_and, and_true]) <;> omega) | ((try simp only [he113.eq]); unfold jsy; (repeat' split) <;> omega))⟩, rfl⟩)
    · refine Jz_iconst 1 dX7_stepY_104 (by decide) (fun y104 he104 => ?_)
      refine J_goto (tgt := 118) dX7_stepY_105 (by decide) ?_
      exact J_ret (r := some (.int _)) dX7_stepY_118 ⟨rfl, _, rfl, rfl⟩ (⟨⟨_, rfl, (by (try simp only [he104.eq, true_and, and_true]) <;> omega), (by (try simp only [he104.eq, true_and, and_true]) <;> omega), (by first | ((try simp only [he104.eq, true_and, and_true]) <;> omega) | ((try simp only [he104.eq]); unfold jsy; (repeat' split) <;> omega))⟩, rfl⟩)
  · refine J_tableOut (tgt := 99) dX7_stepY_1 (Or.inr hx1) (by decide) ?_
    refine J_iload_n dX7_stepY_99 rfl ?_
    refine Jz_iconst 1 dX7_stepY_100 (by decide) (fun y100 he100 => ?_)
    refine Jz_icmp_ne (tgt := 108) jEq.rf he100 dX7_stepY_101 (by decide) (fun c101 => ?_) (fun c101 => ?_)
    · refine J_iload_n dX7_stepY_108 rfl ?_
      refine Jz_iconst 4 dX7_stepY_109 (by decide) (fun y109 he109 => ?_)
      refine Jz_icmp_ne (tgt := 117) jEq.rf he109 dX7_stepY_110 (by decide) (fun c110 => ?_) (fun c110 => ?_)
      · refine Jz_iconst 0 dX7_stepY_117 (by decide) (fun y117 he117 => ?_)
        exact J_ret (r := some (.int _)) dX7_stepY_118 ⟨rfl, _, rfl, rfl⟩ (⟨⟨_, rfl, (by (try simp only [he117.eq, true_and, and_true]) <;> omega), (by (try simp only [he117.eq, true_and, and_true]) <;> omega), (by first | ((try simp only [he117.eq, true_and, and_true]) <;> omega) | ((try simp only [he117.eq]); unfold jsy; (repeat' split) <;> omega))⟩, rfl⟩)
      · refine Jz_iconst (-1) dX7_stepY_113 (by decide) (fun y113 he113 => ?_)
        refine J_goto (tgt := 118) dX7_stepY_114 (by decide) ?_
        exact J_ret (r := some (.int _)) dX7_stepY_118 ⟨rfl, _, rfl, rfl⟩ (⟨⟨_, rfl, (by (try simp only [he113.eq, true_and, and_true]) <;> omega), (by (try simp only [he113.eq, true_and, and_true]) <;> omega), (by first | ((try simp only [he113.eq, true_and, and_true]) <;> omega) | ((try simp only [he113.eq]); unfold jsy; (repeat' split) <;> omega))⟩, rfl⟩)
    · refine Jz_iconst 1 dX7_stepY_104 (by decide) (fun y104 he104 => ?_)
      refine J_goto (tgt := 118) dX7_stepY_105 (by decide) ?_
      exact J_ret (r := some (.int _)) dX7_stepY_118 ⟨rfl, _, rfl, rfl⟩ (⟨⟨_, rfl, (by (try simp only [he104.eq, true_and, and_true]) <;> omega), (by (try simp only [he104.eq, true_and, and_true]) <;> omega), (by first | ((try simp only [he104.eq, true_and, and_true]) <;> omega) | ((try simp only [he104.eq]); unfold jsy; (repeat' split) <;> omega))⟩, rfl⟩)
