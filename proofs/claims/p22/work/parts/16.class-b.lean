set_option maxRecDepth 100000 in
set_option maxHeartbeats 8000000 in
theorem w_X6_reach_oldq {tS : jTS} (d : Nat) (V0 : jH) (a0 : Nat) (x1 : Int32) (x2 : Int32) (fs : List Value) (tl : Nat) (f : Nat → Option Nat) (j : Nat) (t : Nat) (ts : List Value) (rc : Nat) (h : Nat → Int32) (hd : 14 ≤ d) (hW : WT V0) (ha0 : jis V0 (.inr 4) a0) (hx : V0 a0 = some (.inr (4, fs))) (h5 : fs[5]? = some (.ref tl)) (htl : V0 tl = some (.inl (5, 4, .inr (.inr (.inr (.inr f)))))) (hg : x1 = nI j) (hj : j < 4) (hb1 : ¬ x1 < 0) (hb2 : ¬ Int32.ofNat 4 ≤ x1) (hb3 : ¬ x2 < 1) (hb4 : x2 ≤ 20) (hf : f j = some t) (ht : V0 t = some (.inr (2, ts))) (h9 : ts[9]? = some (.ref rc)) (hrc : V0 rc = some (.inl (9, 7, .inl h))) (hp0 : 1 ≤ x2.toInt) (hp1 : x2.toInt ≤ 20) (hp2 : x1.toInt = 2 ∨ 6 < x2.toInt ∨ 10000 < jpw (jdir x1.toInt) x2.toInt.toNat ∨ ¬ (h x2.toInt.toNat).toInt = -1) : jTot tS mX6_reach d [.ref a0, .int x1, .int x2] V0 0 0 (fun r V => (fun r _ => ∃ y : Int32, r = some (.int y) ∧ ((-2147483648) ≤ y.toInt) ∧ (y.toInt ≤ 2147483647)) r V ∧ V = V0) := by
  refine jTot.of_J [some (.ref a0), some (.int x1), some (.int x2), none, none, none] moX6_reach (Nat.le_of_ble_eq_true rfl) rfl ?_
  have hrx1 := j_rng x1
  have hrx2 := j_rng x2
  have he : jeff [] V0 V0 := jeff.refl _ _
  have hKx : jokO V0 (jFs 4) fs := hW _ _ id hx
  have htlk : jis V0 (.inl 5) tl := ⟨_, htl, rfl⟩
  have hN4 : (4 : Nat) < 2 ^ 31 := by decide
  have hvt : ∀ (j b : Nat), j < 4 → f j = some b → jis V0 (.inr 2) b := by
    obtain ⟨n9, f9, h91, h92, h93, h94⟩ := WT_arrR hW id rfl htlk
    cases htl.symm.trans h91
    exact h94
  have hjj : ∀ j2 : Nat, x1 = nI j2 → j2 < 4 → j2 = j := fun j2 h1 h2 => by
    have h3 : x1.toNatClampNeg = j2 := by rw [h1]; exact nI_clamp (by omega)
    have h4 : x1.toNatClampNeg = j := by rw [hg]; exact nI_clamp (by omega)
    omega
  clear hN4
  have hbt : jis V0 (.inr 2) t := ⟨_, ht, rfl⟩
  have hKt : jokO V0 (jFs 2) ts := hW _ _ id ht
  have hbrc : jis V0 (.inl 9) rc := ⟨_, hrc, rfl⟩
  obtain ⟨hNrc, hvrc⟩ := WT_rngI (r := (-2147483648, 2147483647)) hW id rfl hrc
  clear hNrc
  have ho : ∀ j2, x1 = nI j2 → j2 < 4 → ∃ t2, f j2 = some t2 := fun j2 h1 h2 => ⟨t, by rw [hjj j2 h1 h2]; exact hf⟩
  refine J_aload_n dX6_reach_0 rfl ?_
  refine J_iload_n dX6_reach_1 rfl ?_
  refine J_iload_n dX6_reach_2 rfl ?_
  refine Jz_iconst 1 dX6_reach_3 (by decide) (fun y3 he3 => ?_)
  refine Jw_callV3 (q9 := (RX6, TX6, 7)) moX6_tallyFor jw_ml_X6_149 jw_im_X6_tallyFor jw_se_X6_tallyFor ha0 rfl rfl dX6_reach_4 (w_X6_tallyFor_old (d - 1) _ _ _ _ _ fs tl f (by omega) hW ha0 hx h5 htl ho hb1 hb2 (by rw [(jI_inj.mp (he3.eq.trans rfl) : y3 = 1)]; exact hb3) hb4) (by omega) (Nat.zero_le _) (Nat.zero_le _) (Nat.le_of_ble_eq_true rfl) (fun r4 V4 h4 => ?_)
  obtain ⟨hr4, hE4⟩ := h4
  have hE4 := hE4.symm
  subst hE4
  obtain ⟨j2, t2, hj2, hg2, ht2, rfl⟩ := hr4
  · have hj3 := hjj j2 hg2 hj2
    subst hj3
    have ht3 := Option.some.inj (hf.symm.trans ht2)
    subst ht3
    refine J_astore_n dX6_reach_7 rfl (by decide) ?_
    refine J_aload_n dX6_reach_8 rfl ?_
    refine J_ifnull dX6_reach_9 ?_
    refine J_iload_n dX6_reach_12 rfl ?_
    refine Jz_iconst 2 dX6_reach_13 (by decide) (fun y13 he13 => ?_)
    refine Jz_icmp_eq (tgt := 23) jEq.rf he13 dX6_reach_14 (by decide) (fun c14 => ?_) (fun c14 => ?_)
    · refine Jz_bipush (-2) dX6_reach_23 (by decide) (fun y23 he23 => ?_)
      exact J_ret (r := some (.int _)) dX6_reach_25 ⟨rfl, _, rfl, rfl⟩ (⟨⟨_, rfl, (j_rng _).1, (j_rng _).2⟩, rfl⟩)
    · refine J_iload_n dX6_reach_17 rfl ?_
      refine Jz_bipush 6 dX6_reach_18 (by decide) (fun y18 he18 => ?_)
      refine Jz_icmp_le (tgt := 26) jEq.rf he18 dX6_reach_20 (by decide) (fun c20 => ?_) (fun c20 => ?_)
      · refine Jz_iconst 1 dX6_reach_26 (by decide) (fun y26 he26 => ?_)
        refine J_istore dX6_reach_27 rfl (by decide) ?_
        refine Jz_iconst 0 dX6_reach_29 (by decide) (fun y29 he29 => ?_)
        refine J_istore dX6_reach_30 rfl (by decide) ?_
        have L32 : ∀ (N : Nat) (i4n32 : Int32) (i5n32 : Int32), (0 ≤ i5n32.toInt ∧ i5n32.toInt ≤ x2.toInt) → (i4n32.toInt = jpw (jdir x1.toInt) i5n32.toInt.toNat) → (300 - i5n32.toInt).toNat < N → J tS mX6_reach d 32 [some (.ref a0), some (.int x1), some (.int x2), some (.ref t), some (.int i4n32), some (.int i5n32)] [] V0 0 0 (fun r V => (fun r _ => ∃ y : Int32, r = some (.int y) ∧ ((-2147483648) ≤ y.toInt) ∧ (y.toInt ≤ 2147483647)) r V ∧ V = V0) := by
          intro N
          induction N with
          | zero => intro i4n32 i5n32  hi5 hpw hm; exact absurd hm (Nat.not_lt_zero _)
          | succ N ih =>
            intro i4n32 i5n32  hi5 hpw hm
            have ih32 := ih
            have hri5 := j_rng i5n32
            refine J_iload dX6_reach_32 rfl ?_
            refine J_iload_n dX6_reach_34 rfl ?_
            refine Jz_icmp_ge (tgt := 53) jEq.rf jEq.rf dX6_reach_35 (by decide) (fun c35 => ?_) (fun c35 => ?_)
            · have hall : i4n32.toInt = jpw (jdir x1.toInt) x2.toInt.toNat := by rw [hpw, show i5n32.toInt.toNat = x2.toInt.toNat by omega]
              refine J_iload dX6_reach_53 rfl ?_
              refine Jz_sipush 10000 dX6_reach_55 (by decide) (fun y55 he55 => ?_)
              refine Jz_icmp_le (tgt := 64) jEq.rf he55 dX6_reach_58 (by decide) (fun c58 => ?_) (fun c58 => ?_)
              · refine J_aload_n dX6_reach_64 rfl ?_
                refine J_get jf_X6_190 dX6_reach_65 ht h9 ?_
                refine J_iload_n dX6_reach_68 rfl ?_
                refine J_callS2 moX6_cell jw_ml_X6_110 jw_st_X6_cell dX6_reach_69 (w_X6_cell_x (d - 1) _ _ _ hrc (by decide) rfl (by omega) (by omega)) (by omega) (Nat.zero_le _) (Nat.zero_le _) (Nat.le_of_ble_eq_true rfl) (fun r69 V69 h69 => ?_)
                obtain ⟨⟨y69, rfl, hf69⟩, hE69⟩ := h69
                have hE69 := hE69.symm
                subst hE69
                · refine Jz_iconst (-1) dX6_reach_72 (by decide) (fun y72 he72 => ?_)
                  refine Jz_icmp_ne (tgt := 102) jEq.rf he72 dX6_reach_73 (by decide) (fun c73 => ?_) (fun c73 => ?_)
                  · refine J_aload_n dX6_reach_102 rfl ?_
                    refine J_get jf_X6_190 dX6_reach_103 ht h9 ?_
                    refine J_iload_n dX6_reach_106 rfl ?_
                    refine J_callS2 moX6_cell jw_ml_X6_110 jw_st_X6_cell dX6_reach_107 (w_X6_cell_x (d - 1) _ _ _ hrc (by decide) rfl (by omega) (by omega)) (by omega) (Nat.zero_le _) (Nat.zero_le _) (Nat.le_of_ble_eq_true rfl) (fun r107 V107 h107 => ?_)
                    obtain ⟨⟨y107, rfl, hf107⟩, hE107⟩ := h107
                    have hE107 := hE107.symm
                    subst hE107
                    · exact J_ret (r := some (.int _)) dX6_reach_110 ⟨rfl, _, rfl, rfl⟩ (⟨⟨_, rfl, (j_rng _).1, (j_rng _).2⟩, rfl⟩)
                  · exact False.elim (by rw [hf69] at hp2; omega)
              · refine Jz_bipush (-5) dX6_reach_61 (by decide) (fun y61 he61 => ?_)
                exact J_ret (r := some (.int _)) dX6_reach_63 ⟨rfl, _, rfl, rfl⟩ (⟨⟨_, rfl, (j_rng _).1, (j_rng _).2⟩, rfl⟩)
            · refine J_iload dX6_reach_38 rfl ?_
              refine J_iload_n dX6_reach_40 rfl ?_
              refine J_callS1 moX0_directions jw_ml_X6_187 jw_st_X0_directions dX6_reach_41 (w_X0_directions_z (d - 1) _ x1 (by omega)   ) (by omega) (Nat.zero_le _) (Nat.zero_le _) (Nat.le_of_ble_eq_true rfl) (fun r41 V41 h41 => ?_)
              obtain ⟨⟨y41, rfl, hl41, hh41, hP41_0⟩, hE41⟩ := h41
              have hE41 := hE41.symm
              subst hE41
              have hz41 : jEq y41.toInt (jdir (x1.toInt)) := hP41_0
              simp only [hP41_0] at hl41 hh41
              clear hP41_0
              have hjd := jdir_cases x1.toInt
              have hq1 : i4n32.toInt * jdir x1.toInt = jpw (jdir x1.toInt) (i5n32.toInt.toNat + 1) := by rw [hpw, Int.mul_comm]; rfl
              have hq2 := jpw_le6 (d := jdir x1.toInt) (by omega) (by omega) (n := i5n32.toInt.toNat + 1) (by omega)
              have hq3 := jpw_pos (d := jdir x1.toInt) (by omega) (i5n32.toInt.toNat + 1)
              refine Jz_imul jEq.rf hz41 dX6_reach_44 (by omega) (by omega) (fun y44 he44 => ?_)
              refine J_istore dX6_reach_45 rfl (by decide) ?_
              refine Jz_iinc 1 dX6_reach_47 rfl rfl (by decide) jEq.rf (by decide) (by omega) (by omega) (fun y47 he47 => ?_)
              refine J_goto (tgt := 32) dX6_reach_50 (by decide) ?_
              refine J.mask [true, true, true, true, true, true] ?_
              exact ih32  y44 y47  (by (try simp only [he44.eq, he47.eq, true_and, and_true]) <;> omega) (by rw [he44.eq, Int.mul_comm, hpw, he47.eq, show (i5n32.toInt + 1).toNat = i5n32.toInt.toNat + 1 by omega]; rfl) (by (try simp only [he44.eq, he47.eq, true_and, and_true]) <;> omega)
        refine J.mask [true, true, true, true, true, true] ?_
        exact L32 _  y26 y29    (by (try simp only [he26.eq, he29.eq, true_and, and_true]) <;> omega) (by rw [he26.eq, he29.eq]; rfl) (Nat.lt_succ_self _)
      · refine Jz_bipush (-2) dX6_reach_23 (by decide) (fun y23 he23 => ?_)
        exact J_ret (r := some (.int _)) dX6_reach_25 ⟨rfl, _, rfl, rfl⟩ (⟨⟨_, rfl, (j_rng _).1, (j_rng _).2⟩, rfl⟩)
set_option maxRecDepth 100000 in
set_option maxHeartbeats 8000000 in
theorem w_X6_reach_olda {tS : jTS} (d : Nat) (V0 : jH) (a0 : Nat) (x1 : Int32) (x2 : Int32) (fs : List Value) (tl : Nat) (f : Nat → Option Nat) (j : Nat) (t : Nat) (ts : List Value) (rc : Nat) (h : Nat → Int32) (hd : 14 ≤ d) (hW : WT V0) (ha0 : jis V0 (.inr 4) a0) (hx : V0 a0 = some (.inr (4, fs))) (h5 : fs[5]? = some (.ref tl)) (htl : V0 tl = some (.inl (5, 4, .inr (.inr (.inr (.inr f)))))) (hg : x1 = nI j) (hj : j < 4) (hb1 : ¬ x1 < 0) (hb2 : ¬ Int32.ofNat 4 ≤ x1) (hb3 : ¬ x2 < 1) (hb4 : x2 ≤ 20) (hf : f j = some t) (ht : V0 t = some (.inr (2, ts))) (h9 : ts[9]? = some (.ref rc)) (hrc : V0 rc = some (.inl (9, 7, .inl h))) (hp0 : 1 ≤ x2.toInt) (hp1 : x2.toInt ≤ 20) (hp2 : ¬ x1.toInt = 2) (hp3 : x2.toInt ≤ 6) (hp4 : jpw (jdir x1.toInt) x2.toInt.toNat ≤ 10000) (hp5 : (h x2.toInt.toNat).toInt = -1) : jTot tS mX6_reach d [.ref a0, .int x1, .int x2] V0 4 20013 (fun r V => (jPost [.inr 3, .inr 1, .inl 6, .inl 34, .inl 35, .inl 36, .inl 3, .inl 10, .inl 11, .inl 9] V0 (fun r _ => ∃ y : Int32, r = some (.int y) ∧ ((-2147483648) ≤ y.toInt) ∧ (y.toInt ≤ 2147483647))) r V ∧ jle9 V0 V ∧ (∃ G : Nat → Int32, V rc = some (.inl (9, 7, .inl G)) ∧ jcn (-1) G 7 = jcn (-1) h 7 + 1) ∧ jrt a0 V0 V) := by
  refine jTot.of_J [some (.ref a0), some (.int x1), some (.int x2), none, none, none] moX6_reach (Nat.le_of_ble_eq_true rfl) rfl ?_
  have hrx1 := j_rng x1
  have hrx2 := j_rng x2
  have he : jeff [.inr 3, .inr 1, .inl 6, .inl 34, .inl 35, .inl 36, .inl 3, .inl 10, .inl 11, .inl 9] V0 V0 := jeff.refl _ _
  have hkr : jrt a0 V0 V0 := jrt.rf
  have hj9 : jle9 V0 V0 := jle9.rf
  have hKx : jokO V0 (jFs 4) fs := hW _ _ id hx
  have htlk : jis V0 (.inl 5) tl := ⟨_, htl, rfl⟩
  have hN4 : (4 : Nat) < 2 ^ 31 := by decide
  have hvt : ∀ (j b : Nat), j < 4 → f j = some b → jis V0 (.inr 2) b := by
    obtain ⟨n9, f9, h91, h92, h93, h94⟩ := WT_arrR hW id rfl htlk
    cases htl.symm.trans h91
    exact h94
  have hjj : ∀ j2 : Nat, x1 = nI j2 → j2 < 4 → j2 = j := fun j2 h1 h2 => by
    have h3 : x1.toNatClampNeg = j2 := by rw [h1]; exact nI_clamp (by omega)
    have h4 : x1.toNatClampNeg = j := by rw [hg]; exact nI_clamp (by omega)
    omega
  clear hN4
  have hbt : jis V0 (.inr 2) t := ⟨_, ht, rfl⟩
  have hKt : jokO V0 (jFs 2) ts := hW _ _ id ht
  have hbrc : jis V0 (.inl 9) rc := ⟨_, hrc, rfl⟩
  obtain ⟨hNrc, hvrc⟩ := WT_rngI (r := (-2147483648, 2147483647)) hW id rfl hrc
  clear hNrc
  have ho : ∀ j2, x1 = nI j2 → j2 < 4 → ∃ t2, f j2 = some t2 := fun j2 h1 h2 => ⟨t, by rw [hjj j2 h1 h2]; exact hf⟩
  refine J_aload_n dX6_reach_0 rfl ?_
  refine J_iload_n dX6_reach_1 rfl ?_
  refine J_iload_n dX6_reach_2 rfl ?_
  refine Jz_iconst 1 dX6_reach_3 (by decide) (fun y3 he3 => ?_)
  refine Jw_callV3 (q9 := (RX6, TX6, 7)) moX6_tallyFor jw_ml_X6_149 jw_im_X6_tallyFor jw_se_X6_tallyFor ha0 rfl rfl dX6_reach_4 (w_X6_tallyFor_old (d - 1) _ _ _ _ _ fs tl f (by omega) hW ha0 hx h5 htl ho hb1 hb2 (by rw [(jI_inj.mp (he3.eq.trans rfl) : y3 = 1)]; exact hb3) hb4) (by omega) (Nat.zero_le _) (Nat.zero_le _) (Nat.le_of_ble_eq_true rfl) (fun r4 V4 h4 => ?_)
  obtain ⟨hr4, hE4⟩ := h4
  have hE4 := hE4.symm
  subst hE4
  obtain ⟨j2, t2, hj2, hg2, ht2, rfl⟩ := hr4
  · have hj3 := hjj j2 hg2 hj2
    subst hj3
    have ht3 := Option.some.inj (hf.symm.trans ht2)
    subst ht3
    refine J_astore_n dX6_reach_7 rfl (by decide) ?_
    refine J_aload_n dX6_reach_8 rfl ?_
    refine J_ifnull dX6_reach_9 ?_
    refine J_iload_n dX6_reach_12 rfl ?_
    refine Jz_iconst 2 dX6_reach_13 (by decide) (fun y13 he13 => ?_)
    refine Jz_icmp_eq (tgt := 23) jEq.rf he13 dX6_reach_14 (by decide) (fun c14 => ?_) (fun c14 => ?_)
    · exact False.elim (by omega)
    · refine J_iload_n dX6_reach_17 rfl ?_
      refine Jz_bipush 6 dX6_reach_18 (by decide) (fun y18 he18 => ?_)
      refine Jz_icmp_le (tgt := 26) jEq.rf he18 dX6_reach_20 (by decide) (fun c20 => ?_) (fun c20 => ?_)
      · refine Jz_iconst 1 dX6_reach_26 (by decide) (fun y26 he26 => ?_)
        refine J_istore dX6_reach_27 rfl (by decide) ?_
        refine Jz_iconst 0 dX6_reach_29 (by decide) (fun y29 he29 => ?_)
        refine J_istore dX6_reach_30 rfl (by decide) ?_
        have L32 : ∀ (N : Nat) (i4n32 : Int32) (i5n32 : Int32), (0 ≤ i5n32.toInt ∧ i5n32.toInt ≤ x2.toInt) → (i4n32.toInt = jpw (jdir x1.toInt) i5n32.toInt.toNat) → (300 - i5n32.toInt).toNat < N → J tS mX6_reach d 32 [some (.ref a0), some (.int x1), some (.int x2), some (.ref t), some (.int i4n32), some (.int i5n32)] [] V0 4 20013 (fun r V => (jPost [.inr 3, .inr 1, .inl 6, .inl 34, .inl 35, .inl 36, .inl 3, .inl 10, .inl 11, .inl 9] V0 (fun r _ => ∃ y : Int32, r = some (.int y) ∧ ((-2147483648) ≤ y.toInt) ∧ (y.toInt ≤ 2147483647))) r V ∧ jle9 V0 V ∧ (∃ G : Nat → Int32, V rc = some (.inl (9, 7, .inl G)) ∧ jcn (-1) G 7 = jcn (-1) h 7 + 1) ∧ jrt a0 V0 V) := by
          intro N
          induction N with
          | zero => intro i4n32 i5n32  hi5 hpw hm; exact absurd hm (Nat.not_lt_zero _)
          | succ N ih =>
            intro i4n32 i5n32  hi5 hpw hm
            have ih32 := ih
            have hri5 := j_rng i5n32
            refine J_iload dX6_reach_32 rfl ?_
            refine J_iload_n dX6_reach_34 rfl ?_
            refine Jz_icmp_ge (tgt := 53) jEq.rf jEq.rf dX6_reach_35 (by decide) (fun c35 => ?_) (fun c35 => ?_)
            · have hall : i4n32.toInt = jpw (jdir x1.toInt) x2.toInt.toNat := by rw [hpw, show i5n32.toInt.toNat = x2.toInt.toNat by omega]
              refine J_iload dX6_reach_53 rfl ?_
              refine Jz_sipush 10000 dX6_reach_55 (by decide) (fun y55 he55 => ?_)
              refine Jz_icmp_le (tgt := 64) jEq.rf he55 dX6_reach_58 (by decide) (fun c58 => ?_) (fun c58 => ?_)
              · refine J_aload_n dX6_reach_64 rfl ?_
                refine J_get jf_X6_190 dX6_reach_65 ht h9 ?_
                refine J_iload_n dX6_reach_68 rfl ?_
                refine J_callS2 moX6_cell jw_ml_X6_110 jw_st_X6_cell dX6_reach_69 (w_X6_cell_x (d - 1) _ _ _ hrc (by decide) rfl (by omega) (by omega)) (by omega) (Nat.zero_le _) (Nat.zero_le _) (Nat.le_of_ble_eq_true rfl) (fun r69 V69 h69 => ?_)
                obtain ⟨⟨y69, rfl, hf69⟩, hE69⟩ := h69
                have hE69 := hE69.symm
                subst hE69
                · refine Jz_iconst (-1) dX6_reach_72 (by decide) (fun y72 he72 => ?_)
                  have hy69 : y69.toInt = -1 := by rw [← hf69]; exact hp5
                  refine Jz_icmp_ne (tgt := 102) jEq.rf he72 dX6_reach_73 (by decide) (fun c73 => (show False by omega).elim) (fun c73 => ?_)
                  refine J_aload_n dX6_reach_76 rfl ?_
                  refine J_get jf_X6_190 dX6_reach_77 ht h9 ?_
                  refine J_iload_n dX6_reach_80 rfl ?_
                  refine Jc_new jn_X6_193 dX6_reach_81 (by decide) (by decide) hW (fun q81 V81 hn81 hQ81 hk81 hW hx81 => ?_)
                  have hkr := hkr.trans he.1 (jrt.of hx81 (jdis_of rfl))
                  have he := he.trans (hx81.sub (jsub_of rfl))
                  have hj9 := hj9.trans (jle9.of hx81 (jnot_of rfl))
                  have ha0 := ha0.mono hx81.1
                  have htlk := htlk.mono hx81.1
                  have hbt := hbt.mono hx81.1
                  have hbrc := hbrc.mono hx81.1
                  have hx := hx81.2 _ _ hx (jnot_of rfl)
                  have hKx := hKx.mono hx81.1
                  have ht := hx81.2 _ _ ht (jnot_of rfl)
                  have hKt := hKt.mono hx81.1
                  have hrc := hx81.2 _ _ hrc (jnot_of rfl)
                  refine J_dup dX6_reach_84 rfl ?_
                  refine J_iload_n dX6_reach_85 rfl ?_
                  refine J_iload_n dX6_reach_86 rfl ?_
                  refine J_iload dX6_reach_87 rfl ?_
                  refine J_callI3 moX5_init rfl rfl jw_ml_X6_195 jw_im_X5_init dX6_reach_89 (w_X5_init (d - 1) _ _ _ _ _ (by omega) hW hQ81) (by omega) (by decide) (by decide) (Nat.le_of_ble_eq_true rfl) (fun r89 V89 h89 => ?_)
                  obtain ⟨rfl, hW, hx89, hj899⟩ := h89
                  have hkr := hkr.trans he.1 (jrt.of hx89 (jdis_of rfl))
                  have he := he.trans (hx89.sub (jsub_of rfl))
                  have hj9 := hj9.trans (jle9.of hx89 (jnot_of rfl))
                  have ha0 := ha0.mono hx89.1
                  have htlk := htlk.mono hx89.1
                  have hbt := hbt.mono hx89.1
                  have hbrc := hbrc.mono hx89.1
                  have hx := hx89.2 _ _ hx (jnot_of rfl)
                  have hKx := hKx.mono hx89.1
                  have ht := hx89.2 _ _ ht (jnot_of rfl)
                  have hKt := hKt.mono hx89.1
                  have hrc := hx89.2 _ _ hrc (jnot_of rfl)
                  refine J_aload_n dX6_reach_92 rfl ?_
                  obtain ⟨w93, hF93, b93, rfl, hb93⟩ := hKx.2 2 (.inr (some (.inr 1))) rfl
                  refine J_get jf_X6_22 dX6_reach_93 hx hF93 ?_
                  refine Jw_callV1 (q9 := (RX5, TX5, 7)) moX5_countReached jw_ml_X6_198 jw_im_X5_countReached jw_se_X5_countReached hj899 rfl rfl dX6_reach_96 (w_X5_countReached (d - 1) _ q81 b93 (by omega) hW hj899 hb93) (by omega) (Nat.zero_le _) (Nat.zero_le _) (Nat.le_of_ble_eq_true rfl) (fun r96 V96 h96 => ?_)
                  obtain ⟨h96, hX96_0⟩ := h96
                  obtain ⟨hW, hx96, hr96⟩ := h96
                  have hkr := hkr.trans he.1 (jrt.call hx hF93 hX96_0)
                  have he := he.trans (hx96.sub (jsub_of rfl))
                  have hj9 := hj9.trans (jle9.of hx96 (jnot_of rfl))
                  have ha0 := ha0.mono hx96.1
                  have htlk := htlk.mono hx96.1
                  have hbt := hbt.mono hx96.1
                  have hbrc := hbrc.mono hx96.1
                  have hb93 := hb93.mono hx96.1
                  have hx := hx96.2 _ _ hx (jnot_of rfl)
                  have hKx := hKx.mono hx96.1
                  have ht := hx96.2 _ _ ht (jnot_of rfl)
                  have hKt := hKt.mono hx96.1
                  have hrc := hx96.2 _ _ hrc (jnot_of rfl)
                  obtain ⟨y96, rfl, hl96, hh96⟩ := hr96
                  refine J_callS3 moX6_put jw_ml_X6_183 jw_st_X6_put dX6_reach_99 (w_X6_put_x (d - 1) _ _ _ _ hW hrc (by omega) (by omega) (by omega)) (by omega) (Nat.zero_le _) (Nat.zero_le _) (Nat.le_of_ble_eq_true rfl) (fun r99 V99 h99 => ?_)
                  obtain ⟨rfl, hW, hx99, hj99, G99, hA99, hp99, hc99⟩ := h99
                  obtain ⟨hN99, hv99⟩ := WT_rngI (r := (-2147483648, 2147483647)) hW id rfl hA99
                  clear hN99
                  have hkr := hkr.trans he.1 (jrt.of hx99 (jdis_of rfl))
                  have he := he.trans (hx99.sub (jsub_of rfl))
                  have hj9 := hj9.trans hj99
                  have ha0 := ha0.mono hx99.1
                  have htlk := htlk.mono hx99.1
                  have hbt := hbt.mono hx99.1
                  have hbrc := hbrc.mono hx99.1
                  have hb93 := hb93.mono hx99.1
                  have hx := hx99.2 _ _ hx (jnot_of rfl)
                  have hKx := hKx.mono hx99.1
                  have ht := hx99.2 _ _ ht (jnot_of rfl)
                  have hKt := hKt.mono hx99.1
                  · refine J_aload_n dX6_reach_102 rfl ?_
                    refine J_get jf_X6_190 dX6_reach_103 ht h9 ?_
                    refine J_iload_n dX6_reach_106 rfl ?_
                    refine J_callS2 moX6_cell jw_ml_X6_110 jw_st_X6_cell dX6_reach_107 (w_X6_cell_x (d - 1) _ _ _ hA99 (by decide) rfl (by omega) (by omega)) (by omega) (Nat.zero_le _) (Nat.zero_le _) (Nat.le_of_ble_eq_true rfl) (fun r107 V107 h107 => ?_)
                    obtain ⟨⟨y107, rfl, hf107⟩, hE107⟩ := h107
                    have hE107 := hE107.symm
                    subst hE107
                    · exact J_ret (r := some (.int _)) dX6_reach_110 ⟨rfl, _, rfl, rfl⟩ (⟨⟨hW, he, ⟨_, rfl, (j_rng _).1, (j_rng _).2⟩⟩, hj9, ⟨G99, hA99, hc99 hp5⟩, hkr⟩)
              · exact False.elim (by omega)
            · refine J_iload dX6_reach_38 rfl ?_
              refine J_iload_n dX6_reach_40 rfl ?_
              refine J_callS1 moX0_directions jw_ml_X6_187 jw_st_X0_directions dX6_reach_41 (w_X0_directions_z (d - 1) _ x1 (by omega)   ) (by omega) (Nat.zero_le _) (Nat.zero_le _) (Nat.le_of_ble_eq_true rfl) (fun r41 V41 h41 => ?_)
              obtain ⟨⟨y41, rfl, hl41, hh41, hP41_0⟩, hE41⟩ := h41
              have hE41 := hE41.symm
              subst hE41
              have hz41 : jEq y41.toInt (jdir (x1.toInt)) := hP41_0
              simp only [hP41_0] at hl41 hh41
              clear hP41_0
              have hjd := jdir_cases x1.toInt
              have hq1 : i4n32.toInt * jdir x1.toInt = jpw (jdir x1.toInt) (i5n32.toInt.toNat + 1) := by rw [hpw, Int.mul_comm]; rfl
              have hq2 := jpw_le6 (d := jdir x1.toInt) (by omega) (by omega) (n := i5n32.toInt.toNat + 1) (by omega)
              have hq3 := jpw_pos (d := jdir x1.toInt) (by omega) (i5n32.toInt.toNat + 1)
              refine Jz_imul jEq.rf hz41 dX6_reach_44 (by omega) (by omega) (fun y44 he44 => ?_)
              refine J_istore dX6_reach_45 rfl (by decide) ?_
              refine Jz_iinc 1 dX6_reach_47 rfl rfl (by decide) jEq.rf (by decide) (by omega) (by omega) (fun y47 he47 => ?_)
              refine J_goto (tgt := 32) dX6_reach_50 (by decide) ?_
              refine J.mask [true, true, true, true, true, true] ?_
              exact ih32  y44 y47  (by (try simp only [he44.eq, he47.eq, true_and, and_true]) <;> omega) (by rw [he44.eq, Int.mul_comm, hpw, he47.eq, show (i5n32.toInt + 1).toNat = i5n32.toInt.toNat + 1 by omega]; rfl) (by (try simp only [he44.eq, he47.eq, true_and, and_true]) <;> omega)
        refine J.mask [true, true, true, true, true, true] ?_
        exact L32 _  y26 y29    (by (try simp only [he26.eq, he29.eq, true_and, and_true]) <;> omega) (by rw [he26.eq, he29.eq]; rfl) (Nat.lt_succ_self _)
      · exact False.elim (by omega)
set_option maxRecDepth 100000 in
set_option maxHeartbeats 8000000 in
theorem w_X6_reach_new {tS : jTS} (d : Nat) (V0 : jH) (a0 : Nat) (x1 : Int32) (x2 : Int32) (fs : List Value) (tl : Nat) (f : Nat → Option Nat) (j : Nat) (hd : 14 ≤ d) (hW : WT V0) (ha0 : jis V0 (.inr 4) a0) (hx : V0 a0 = some (.inr (4, fs))) (h5 : fs[5]? = some (.ref tl)) (htl : V0 tl = some (.inl (5, 4, .inr (.inr (.inr (.inr f)))))) (hg : x1 = nI j) (hj : j < 4) (hb1 : ¬ x1 < 0) (hb2 : ¬ Int32.ofNat 4 ≤ x1) (hb3 : ¬ x2 < 1) (hb4 : x2 ≤ 20) (hf : f j = none) (hp0 : 1 ≤ x2.toInt) (hp1 : x2.toInt ≤ 20) : jTot tS mX6_reach d [.ref a0, .int x1, .int x2] V0 12 35751 (fun r V => (jPost [.inl 5, .inr 2, .inr 3, .inr 1, .inl 6, .inl 34, .inl 35, .inl 36, .inl 3, .inl 10, .inl 11, .inl 9] V0 (fun r _ => ∃ y : Int32, r = some (.int y) ∧ ((-2147483648) ≤ y.toInt) ∧ (y.toInt ≤ 2147483647))) r V ∧ jle9 V0 V ∧ (∃ f2 : Nat → Option Nat, V tl = some (.inl (5, 4, .inr (.inr (.inr (.inr f2))))) ∧ (∀ i, i ≠ j → f2 i = f i) ∧ ∃ t, f2 j = some t) ∧ jrt a0 V0 V) := by
  refine jTot.of_J [some (.ref a0), some (.int x1), some (.int x2), none, none, none] moX6_reach (Nat.le_of_ble_eq_true rfl) rfl ?_
  have hrx1 := j_rng x1
  have hrx2 := j_rng x2
  have he : jeff [.inl 5, .inr 2, .inr 3, .inr 1, .inl 6, .inl 34, .inl 35, .inl 36, .inl 3, .inl 10, .inl 11, .inl 9] V0 V0 := jeff.refl _ _
  have hkr : jrt a0 V0 V0 := jrt.rf
  have hj9 : jle9 V0 V0 := jle9.rf
  have hKx : jokO V0 (jFs 4) fs := hW _ _ id hx
  have htlk : jis V0 (.inl 5) tl := ⟨_, htl, rfl⟩
  have hN4 : (4 : Nat) < 2 ^ 31 := by decide
  have hvt : ∀ (j b : Nat), j < 4 → f j = some b → jis V0 (.inr 2) b := by
    obtain ⟨n9, f9, h91, h92, h93, h94⟩ := WT_arrR hW id rfl htlk
    cases htl.symm.trans h91
    exact h94
  have hjj : ∀ j2 : Nat, x1 = nI j2 → j2 < 4 → j2 = j := fun j2 h1 h2 => by
    have h3 : x1.toNatClampNeg = j2 := by rw [h1]; exact nI_clamp (by omega)
    have h4 : x1.toNatClampNeg = j := by rw [hg]; exact nI_clamp (by omega)
    omega
  clear hN4
  refine J_aload_n dX6_reach_0 rfl ?_
  refine J_iload_n dX6_reach_1 rfl ?_
  refine J_iload_n dX6_reach_2 rfl ?_
  refine Jz_iconst 1 dX6_reach_3 (by decide) (fun y3 he3 => ?_)
  refine Jw_callV3 (q9 := (RX6, TX6, 7)) moX6_tallyFor jw_ml_X6_149 jw_im_X6_tallyFor jw_se_X6_tallyFor ha0 rfl rfl dX6_reach_4 (w_X6_tallyFor_new (d - 1) _ _ _ _ _ fs tl f j (by omega) hW ha0 hx h5 htl hg hj hf hb1 hb2 (by rw [(jI_inj.mp (he3.eq.trans rfl) : y3 = 1)]; exact hb3) hb4) (by omega) (by omega) (by omega) (Nat.le_of_ble_eq_true rfl) (fun r4 V4 h4 => ?_)
  obtain ⟨t, rfl, hW, hx4, hbt, htl2⟩ := h4
  have hkr := hkr.trans he.1 (jrt.of hx4 (jdis_of rfl))
  have he := he.trans (hx4.sub (jsub_of rfl))
  have hj9 := hj9.trans (jle9.of hx4 (jnot_of rfl))
  have ha0 := ha0.mono hx4.1
  have htlk := htlk.mono hx4.1
  have hx := hx4.2 _ _ hx (jnot_of rfl)
  have hKx := hKx.mono hx4.1
  have htlk : jis V4 (.inl 5) tl := ⟨_, htl2, rfl⟩
  · refine J_astore_n dX6_reach_7 rfl (by decide) ?_
    refine J_aload_n dX6_reach_8 rfl ?_
    refine J_ifnull dX6_reach_9 ?_
    refine J_iload_n dX6_reach_12 rfl ?_
    refine Jz_iconst 2 dX6_reach_13 (by decide) (fun y13 he13 => ?_)
    refine Jz_icmp_eq (tgt := 23) jEq.rf he13 dX6_reach_14 (by decide) (fun c14 => ?_) (fun c14 => ?_)
    · refine Jz_bipush (-2) dX6_reach_23 (by decide) (fun y23 he23 => ?_)
      exact J_ret (r := some (.int _)) dX6_reach_25 ⟨rfl, _, rfl, rfl⟩ (⟨⟨hW, he, ⟨_, rfl, (j_rng _).1, (j_rng _).2⟩⟩, hj9, ⟨_, htl2, fun i hi => va_up_ne _ _ hi, _, va_up_self _ _ _⟩, hkr⟩)
    · refine J_iload_n dX6_reach_17 rfl ?_
      refine Jz_bipush 6 dX6_reach_18 (by decide) (fun y18 he18 => ?_)
      refine Jz_icmp_le (tgt := 26) jEq.rf he18 dX6_reach_20 (by decide) (fun c20 => ?_) (fun c20 => ?_)
      · refine Jz_iconst 1 dX6_reach_26 (by decide) (fun y26 he26 => ?_)
        refine J_istore dX6_reach_27 rfl (by decide) ?_
        refine Jz_iconst 0 dX6_reach_29 (by decide) (fun y29 he29 => ?_)
        refine J_istore dX6_reach_30 rfl (by decide) ?_
        have L32 : ∀ (N : Nat) (i4n32 : Int32) (i5n32 : Int32), (0 ≤ i5n32.toInt ∧ i5n32.toInt ≤ x2.toInt) → (i4n32.toInt = jpw (jdir x1.toInt) i5n32.toInt.toNat) → (300 - i5n32.toInt).toNat < N → J tS mX6_reach d 32 [some (.ref a0), some (.int x1), some (.int x2), some (.ref t), some (.int i4n32), some (.int i5n32)] [] V4 4 20013 (fun r V => (jPost [.inl 5, .inr 2, .inr 3, .inr 1, .inl 6, .inl 34, .inl 35, .inl 36, .inl 3, .inl 10, .inl 11, .inl 9] V0 (fun r _ => ∃ y : Int32, r = some (.int y) ∧ ((-2147483648) ≤ y.toInt) ∧ (y.toInt ≤ 2147483647))) r V ∧ jle9 V0 V ∧ (∃ f2 : Nat → Option Nat, V tl = some (.inl (5, 4, .inr (.inr (.inr (.inr f2))))) ∧ (∀ i, i ≠ j → f2 i = f i) ∧ ∃ t, f2 j = some t) ∧ jrt a0 V0 V) := by
          intro N
          induction N with
          | zero => intro i4n32 i5n32  hi5 hpw hm; exact absurd hm (Nat.not_lt_zero _)
          | succ N ih =>
            intro i4n32 i5n32  hi5 hpw hm
            have ih32 := ih
            have hri5 := j_rng i5n32
            refine J_iload dX6_reach_32 rfl ?_
            refine J_iload_n dX6_reach_34 rfl ?_
            refine Jz_icmp_ge (tgt := 53) jEq.rf jEq.rf dX6_reach_35 (by decide) (fun c35 => ?_) (fun c35 => ?_)
            · have hall : i4n32.toInt = jpw (jdir x1.toInt) x2.toInt.toNat := by rw [hpw, show i5n32.toInt.toNat = x2.toInt.toNat by omega]
              refine J_iload dX6_reach_53 rfl ?_
              refine Jz_sipush 10000 dX6_reach_55 (by decide) (fun y55 he55 => ?_)
              refine Jz_icmp_le (tgt := 64) jEq.rf he55 dX6_reach_58 (by decide) (fun c58 => ?_) (fun c58 => ?_)
              · refine J_aload_n dX6_reach_64 rfl ?_
                obtain ⟨fs65, hO65, hK65⟩ := WT_obj hW id hbt
                obtain ⟨w65, hF65, b65, rfl, hb65⟩ := hK65.2 9 (.inr (some (.inl 9))) rfl
                refine J_get jf_X6_190 dX6_reach_65 hO65 hF65 ?_
                refine J_iload_n dX6_reach_68 rfl ?_
                obtain ⟨n69o, f69o, hA69o, hN69o, hM69o, hv69o⟩ := WT_arrI (r := (-2147483648, 2147483647)) hW id rfl hb65
                obtain rfl := hM69o 7 rfl
                clear hN69o hM69o
                refine J_callS2 moX6_cell jw_ml_X6_110 jw_st_X6_cell dX6_reach_69 (w_X6_cell_x (d - 1) _ _ _ hA69o (by decide) rfl (by omega) (by omega)) (by omega) (Nat.zero_le _) (Nat.zero_le _) (Nat.le_of_ble_eq_true rfl) (fun r69 V69 h69 => ?_)
                obtain ⟨⟨y69, rfl, hf69⟩, hE69⟩ := h69
                have hE69 := hE69.symm
                subst hE69
                · refine Jz_iconst (-1) dX6_reach_72 (by decide) (fun y72 he72 => ?_)
                  refine Jz_icmp_ne (tgt := 102) jEq.rf he72 dX6_reach_73 (by decide) (fun c73 => ?_) (fun c73 => ?_)
                  · refine J_aload_n dX6_reach_102 rfl ?_
                    refine J_get jf_X6_190 dX6_reach_103 hO65 hF65 ?_
                    refine J_iload_n dX6_reach_106 rfl ?_
                    refine J_callS2 moX6_cell jw_ml_X6_110 jw_st_X6_cell dX6_reach_107 (w_X6_cell_x (d - 1) _ _ _ hA69o (by decide) rfl (by omega) (by omega)) (by omega) (Nat.zero_le _) (Nat.zero_le _) (Nat.le_of_ble_eq_true rfl) (fun r107 V107 h107 => ?_)
                    obtain ⟨⟨y107, rfl, hf107⟩, hE107⟩ := h107
                    have hE107 := hE107.symm
                    subst hE107
                    · exact J_ret (r := some (.int _)) dX6_reach_110 ⟨rfl, _, rfl, rfl⟩ (⟨⟨hW, he, ⟨_, rfl, (j_rng _).1, (j_rng _).2⟩⟩, hj9, ⟨_, htl2, fun i hi => va_up_ne _ _ hi, _, va_up_self _ _ _⟩, hkr⟩)
                  · refine J_aload_n dX6_reach_76 rfl ?_
                    refine J_get jf_X6_190 dX6_reach_77 hO65 hF65 ?_
                    refine J_iload_n dX6_reach_80 rfl ?_
                    refine Jc_new jn_X6_193 dX6_reach_81 (by decide) (by decide) hW (fun q81 V81 hn81 hQ81 hk81 hW hx81 => ?_)
                    have hkr := hkr.trans he.1 (jrt.of hx81 (jdis_of rfl))
                    have he := he.trans (hx81.sub (jsub_of rfl))
                    have hj9 := hj9.trans (jle9.of hx81 (jnot_of rfl))
                    have ha0 := ha0.mono hx81.1
                    have htlk := htlk.mono hx81.1
                    have hbt := hbt.mono hx81.1
                    have hb65 := hb65.mono hx81.1
                    have hx := hx81.2 _ _ hx (jnot_of rfl)
                    have hKx := hKx.mono hx81.1
                    have hO65 := hx81.2 _ _ hO65 (jnot_of rfl)
                    have hK65 := hK65.mono hx81.1
                    have htl2 := hx81.2 _ _ htl2 (jnot_of rfl)
                    have hA69o := hx81.2 _ _ hA69o (jnot_of rfl)
                    refine J_dup dX6_reach_84 rfl ?_
                    refine J_iload_n dX6_reach_85 rfl ?_
                    refine J_iload_n dX6_reach_86 rfl ?_
                    refine J_iload dX6_reach_87 rfl ?_
                    refine J_callI3 moX5_init rfl rfl jw_ml_X6_195 jw_im_X5_init dX6_reach_89 (w_X5_init (d - 1) _ _ _ _ _ (by omega) hW hQ81) (by omega) (by decide) (by decide) (Nat.le_of_ble_eq_true rfl) (fun r89 V89 h89 => ?_)
                    obtain ⟨rfl, hW, hx89, hj899⟩ := h89
                    have hkr := hkr.trans he.1 (jrt.of hx89 (jdis_of rfl))
                    have he := he.trans (hx89.sub (jsub_of rfl))
                    have hj9 := hj9.trans (jle9.of hx89 (jnot_of rfl))
                    have ha0 := ha0.mono hx89.1
                    have htlk := htlk.mono hx89.1
                    have hbt := hbt.mono hx89.1
                    have hb65 := hb65.mono hx89.1
                    have hx := hx89.2 _ _ hx (jnot_of rfl)
                    have hKx := hKx.mono hx89.1
                    have hO65 := hx89.2 _ _ hO65 (jnot_of rfl)
                    have hK65 := hK65.mono hx89.1
                    have htl2 := hx89.2 _ _ htl2 (jnot_of rfl)
                    have hA69o := hx89.2 _ _ hA69o (jnot_of rfl)
                    refine J_aload_n dX6_reach_92 rfl ?_
                    obtain ⟨w93, hF93, b93, rfl, hb93⟩ := hKx.2 2 (.inr (some (.inr 1))) rfl
                    refine J_get jf_X6_22 dX6_reach_93 hx hF93 ?_
                    refine Jw_callV1 (q9 := (RX5, TX5, 7)) moX5_countReached jw_ml_X6_198 jw_im_X5_countReached jw_se_X5_countReached hj899 rfl rfl dX6_reach_96 (w_X5_countReached (d - 1) _ q81 b93 (by omega) hW hj899 hb93) (by omega) (Nat.zero_le _) (Nat.zero_le _) (Nat.le_of_ble_eq_true rfl) (fun r96 V96 h96 => ?_)
                    obtain ⟨h96, hX96_0⟩ := h96
                    obtain ⟨hW, hx96, hr96⟩ := h96
                    have hkr := hkr.trans he.1 (jrt.call hx hF93 hX96_0)
                    have he := he.trans (hx96.sub (jsub_of rfl))
                    have hj9 := hj9.trans (jle9.of hx96 (jnot_of rfl))
                    have ha0 := ha0.mono hx96.1
                    have htlk := htlk.mono hx96.1
                    have hbt := hbt.mono hx96.1
                    have hb65 := hb65.mono hx96.1
                    have hb93 := hb93.mono hx96.1
                    have hx := hx96.2 _ _ hx (jnot_of rfl)
                    have hKx := hKx.mono hx96.1
                    have hO65 := hx96.2 _ _ hO65 (jnot_of rfl)
                    have hK65 := hK65.mono hx96.1
                    have htl2 := hx96.2 _ _ htl2 (jnot_of rfl)
                    have hA69o := hx96.2 _ _ hA69o (jnot_of rfl)
                    obtain ⟨y96, rfl, hl96, hh96⟩ := hr96
                    refine J_callS3 moX6_put jw_ml_X6_183 jw_st_X6_put dX6_reach_99 (w_X6_put_x (d - 1) _ _ _ _ hW hA69o (by omega) (by omega) (by omega)) (by omega) (Nat.zero_le _) (Nat.zero_le _) (Nat.le_of_ble_eq_true rfl) (fun r99 V99 h99 => ?_)
                    obtain ⟨rfl, hW, hx99, hj99, G99, hA99, hp99, hc99⟩ := h99
                    obtain ⟨hN99, hv99⟩ := WT_rngI (r := (-2147483648, 2147483647)) hW id rfl hA99
                    clear hN99
                    have hkr := hkr.trans he.1 (jrt.of hx99 (jdis_of rfl))
                    have he := he.trans (hx99.sub (jsub_of rfl))
                    have hj9 := hj9.trans hj99
                    have ha0 := ha0.mono hx99.1
                    have htlk := htlk.mono hx99.1
                    have hbt := hbt.mono hx99.1
                    have hb65 := hb65.mono hx99.1
                    have hb93 := hb93.mono hx99.1
                    have hx := hx99.2 _ _ hx (jnot_of rfl)
                    have hKx := hKx.mono hx99.1
                    have hO65 := hx99.2 _ _ hO65 (jnot_of rfl)
                    have hK65 := hK65.mono hx99.1
                    have htl2 := hx99.2 _ _ htl2 (jnot_of rfl)
                    · refine J_aload_n dX6_reach_102 rfl ?_
                      refine J_get jf_X6_190 dX6_reach_103 hO65 hF65 ?_
                      refine J_iload_n dX6_reach_106 rfl ?_
                      refine J_callS2 moX6_cell jw_ml_X6_110 jw_st_X6_cell dX6_reach_107 (w_X6_cell_x (d - 1) _ _ _ hA99 (by decide) rfl (by omega) (by omega)) (by omega) (Nat.zero_le _) (Nat.zero_le _) (Nat.le_of_ble_eq_true rfl) (fun r107 V107 h107 => ?_)
                      obtain ⟨⟨y107, rfl, hf107⟩, hE107⟩ := h107
                      have hE107 := hE107.symm
                      subst hE107
                      · exact J_ret (r := some (.int _)) dX6_reach_110 ⟨rfl, _, rfl, rfl⟩ (⟨⟨hW, he, ⟨_, rfl, (j_rng _).1, (j_rng _).2⟩⟩, hj9, ⟨_, htl2, fun i hi => va_up_ne _ _ hi, _, va_up_self _ _ _⟩, hkr⟩)
              · refine Jz_bipush (-5) dX6_reach_61 (by decide) (fun y61 he61 => ?_)
                exact J_ret (r := some (.int _)) dX6_reach_63 ⟨rfl, _, rfl, rfl⟩ (⟨⟨hW, he, ⟨_, rfl, (j_rng _).1, (j_rng _).2⟩⟩, hj9, ⟨_, htl2, fun i hi => va_up_ne _ _ hi, _, va_up_self _ _ _⟩, hkr⟩)
            · refine J_iload dX6_reach_38 rfl ?_
              refine J_iload_n dX6_reach_40 rfl ?_
              refine J_callS1 moX0_directions jw_ml_X6_187 jw_st_X0_directions dX6_reach_41 (w_X0_directions_z (d - 1) _ x1 (by omega)   ) (by omega) (Nat.zero_le _) (Nat.zero_le _) (Nat.le_of_ble_eq_true rfl) (fun r41 V41 h41 => ?_)
              obtain ⟨⟨y41, rfl, hl41, hh41, hP41_0⟩, hE41⟩ := h41
              have hE41 := hE41.symm
              subst hE41
              have hz41 : jEq y41.toInt (jdir (x1.toInt)) := hP41_0
              simp only [hP41_0] at hl41 hh41
              clear hP41_0
              have hjd := jdir_cases x1.toInt
              have hq1 : i4n32.toInt * jdir x1.toInt = jpw (jdir x1.toInt) (i5n32.toInt.toNat + 1) := by rw [hpw, Int.mul_comm]; rfl
              have hq2 := jpw_le6 (d := jdir x1.toInt) (by omega) (by omega) (n := i5n32.toInt.toNat + 1) (by omega)
              have hq3 := jpw_pos (d := jdir x1.toInt) (by omega) (i5n32.toInt.toNat + 1)
              refine Jz_imul jEq.rf hz41 dX6_reach_44 (by omega) (by omega) (fun y44 he44 => ?_)
              refine J_istore dX6_reach_45 rfl (by decide) ?_
              refine Jz_iinc 1 dX6_reach_47 rfl rfl (by decide) jEq.rf (by decide) (by omega) (by omega) (fun y47 he47 => ?_)
              refine J_goto (tgt := 32) dX6_reach_50 (by decide) ?_
              refine J.mask [true, true, true, true, true, true] ?_
              exact ih32  y44 y47  (by (try simp only [he44.eq, he47.eq, true_and, and_true]) <;> omega) (by rw [he44.eq, Int.mul_comm, hpw, he47.eq, show (i5n32.toInt + 1).toNat = i5n32.toInt.toNat + 1 by omega]; rfl) (by (try simp only [he44.eq, he47.eq, true_and, and_true]) <;> omega)
        refine J.mask [true, true, true, true, true, true] ?_
        exact L32 _  y26 y29    (by (try simp only [he26.eq, he29.eq, true_and, and_true]) <;> omega) (by rw [he26.eq, he29.eq]; rfl) (Nat.lt_succ_self _)
      · refine Jz_bipush (-2) dX6_reach_23 (by decide) (fun y23 he23 => ?_)
        exact J_ret (r := some (.int _)) dX6_reach_25 ⟨rfl, _, rfl, rfl⟩ (⟨⟨hW, he, ⟨_, rfl, (j_rng _).1, (j_rng _).2⟩⟩, hj9, ⟨_, htl2, fun i hi => va_up_ne _ _ hi, _, va_up_self _ _ _⟩, hkr⟩)
set_option maxRecDepth 100000 in
set_option maxHeartbeats 8000000 in
theorem w_X6_walk_zold {tS : jTS} (d : Nat) (V0 : jH) (a0 : Nat) (x1 : Int32) (v1 : Int32) (hd : 2 ≤ d) (hW : WT V0) (ha0 : jis V0 (.inr 4) a0) (hf_v1 : jfI V0 a0 4 1 v1) (hp0 : v1.toInt = 16) : jTot tS mX6_walk d [.ref a0, .int x1] V0 0 0 (fun r V => (fun r _ => ∃ y : Int32, r = some (.int y) ∧ ((-2147483648) ≤ y.toInt) ∧ (y.toInt ≤ 2147483647) ∧ ((¬ (0 ≤ x1.toInt ∧ x1.toInt ≤ 3) ∧ y.toInt = -2) ∨ (0 ≤ x1.toInt ∧ x1.toInt ≤ 3 ∧ y.toInt = -4))) r V ∧ V = V0) := by
  refine jTot.of_J [some (.ref a0), some (.int x1), none] moX6_walk (Nat.le_of_ble_eq_true rfl) rfl ?_
  have hrx1 := j_rng x1
  have he : jeff [] V0 V0 := jeff.refl _ _
  obtain ⟨fs_a0, hO_a0, hK_a0⟩ := WT_obj hW id ha0
  have hF_v1 := hf_v1.get hO_a0
  have hrv1 : 0 ≤ v1.toInt ∧ v1.toInt ≤ 16 := jok_rngI hK_a0 rfl hF_v1
  refine J_iload_n dX6_walk_0 rfl ?_
  refine J_callS1 moX0_isGround jw_ml_X6_46 jw_st_X0_isGround dX6_walk_1 (w_X0_isGround_z (d - 1) _ x1 (by omega)   ) (by omega) (Nat.zero_le _) (Nat.zero_le _) (Nat.le_of_ble_eq_true rfl) (fun r1 V1 h1 => ?_)
  obtain ⟨⟨y1, rfl, hl1, hh1, hP1_0⟩, hE1⟩ := h1
  have hE1 := hE1.symm
  subst hE1
  refine Jz_if_ne (tgt := 10) jEq.rf dX6_walk_4 (by decide) (fun c4 => ?_) (fun c4 => ?_)
  · refine J_aload_n dX6_walk_10 rfl ?_
    refine J_get jf_X6_15 dX6_walk_11 hO_a0 hF_v1 ?_
    refine Jz_if_lt (tgt := 29) jEq.rf dX6_walk_14 (by decide) (fun c14 => ?_) (fun c14 => ?_)
    · refine Jz_bipush (-4) dX6_walk_29 (by decide) (fun y29 he29 => ?_)
      exact J_ret (r := some (.int _)) dX6_walk_31 ⟨rfl, _, rfl, rfl⟩ (⟨⟨_, rfl, (j_rng _).1, (j_rng _).2, (by (try simp only [he29.eq, true_and, and_true]) <;> omega)⟩, rfl⟩)
    · refine J_aload_n dX6_walk_17 rfl ?_
      refine J_get jf_X6_15 dX6_walk_18 hO_a0 hF_v1 ?_
      refine J_aload_n dX6_walk_21 rfl ?_
      obtain ⟨w22, hF22, b22, rfl, hb22⟩ := hK_a0.2 0 (.inr (some (.inl 4))) rfl
      refine J_get jf_X6_11 dX6_walk_22 hO_a0 hF22 ?_
      obtain ⟨n25, f25, hA25, hN25, hM25, hv25⟩ := WT_arrR hW id rfl hb22
      obtain rfl := hM25 16 rfl
      clear hN25 hM25
      refine J_alen dX6_walk_25 hA25 rfl rfl ?_
      have he25 : jEq (Int32.ofNat 16).toInt 16 := nI_toInt (by decide)
      generalize Int32.ofNat 16 = y25 at he25 ⊢
      refine Jz_icmp_lt (tgt := 32) jEq.rf he25 dX6_walk_26 (by decide) (fun c26 => ?_) (fun c26 => ?_)
      · exact False.elim (by omega)
      · refine Jz_bipush (-4) dX6_walk_29 (by decide) (fun y29 he29 => ?_)
        exact J_ret (r := some (.int _)) dX6_walk_31 ⟨rfl, _, rfl, rfl⟩ (⟨⟨_, rfl, (j_rng _).1, (j_rng _).2, (by (try simp only [he29.eq, true_and, and_true]) <;> omega)⟩, rfl⟩)
  · refine Jz_bipush (-2) dX6_walk_7 (by decide) (fun y7 he7 => ?_)
    exact J_ret (r := some (.int _)) dX6_walk_9 ⟨rfl, _, rfl, rfl⟩ (⟨⟨_, rfl, (j_rng _).1, (j_rng _).2, (by (try simp only [he7.eq, true_and, and_true]) <;> omega)⟩, rfl⟩)
set_option maxRecDepth 100000 in
set_option maxHeartbeats 8000000 in
theorem w_X2_numberOf_z {tS : jTS} (d : Nat) (V0 : jH) (x0 : Int32) (x1 : Int32) (hd : 0 ≤ d)  (hp0 : 0 ≤ x0.toInt) (hp1 : x0.toInt ≤ 5) (hp2 : 0 ≤ x1.toInt) (hp3 : x1.toInt ≤ 5) : jTot tS mX2_numberOf d [.int x0, .int x1] V0 0 0 (fun r V => (fun r _ => ∃ y : Int32, r = some (.int y) ∧ ((-2147483648) ≤ y.toInt) ∧ (y.toInt ≤ 2147483647) ∧ (y.toInt = 9 + x0.toInt + 8 * x1.toInt)) r V ∧ V = V0) := by
  refine jTot.of_J [some (.int x0), some (.int x1)] moX2_numberOf (Nat.le_of_ble_eq_true rfl) rfl ?_
  have hrx0 := j_rng x0
  have hrx1 := j_rng x1
  refine Jz_bipush 9 dX2_numberOf_0 (by decide) (fun y0 he0 => ?_)
  refine J_iload_n dX2_numberOf_2 rfl ?_
  refine Jz_iadd he0 jEq.rf dX2_numberOf_3 (by omega) (by omega) (fun y3 he3 => ?_)
  refine Jz_bipush 8 dX2_numberOf_4 (by decide) (fun y4 he4 => ?_)
  refine J_iload_n dX2_numberOf_6 rfl ?_
  refine Jz_imul he4 jEq.rf dX2_numberOf_7 (by omega) (by omega) (fun y7 he7 => ?_)
  refine Jz_iadd he3 he7 dX2_numberOf_8 (by omega) (by omega) (fun y8 he8 => ?_)
  exact J_ret (r := some (.int _)) dX2_numberOf_9 ⟨rfl, _, rfl, rfl⟩ (⟨⟨_, rfl, (j_rng _).1, (j_rng _).2, (by (try simp only [he8.eq, true_and, and_true]) <;> omega)⟩, rfl⟩)
set_option maxRecDepth 100000 in
set_option maxHeartbeats 8000000 in
theorem w_X2_bitOf_z {tS : jTS} (d : Nat) (V0 : jH) (x0 : Int32) (x1 : Int32) (hd : 1 ≤ d)  (hp0 : 0 ≤ x0.toInt) (hp1 : x0.toInt ≤ 5) (hp2 : 0 ≤ x1.toInt) (hp3 : x1.toInt ≤ 5) : jTot tS mX2_bitOf d [.int x0, .int x1] V0 0 0 (fun r V => (fun r _ => ∃ y : Int64, r = some (.long y) ∧ (∀ n : Nat, jbt y n = decide ((n : Int) = 9 + x0.toInt + 8 * x1.toInt))) r V ∧ V = V0) := by
  refine jTot.of_J [some (.int x0), some (.int x1)] moX2_bitOf (Nat.le_of_ble_eq_true rfl) rfl ?_
  have hrx0 := j_rng x0
  have hrx1 := j_rng x1
  refine J_lconst (v := 1) dX2_bitOf_0 rfl ?_
  refine J_iload_n dX2_bitOf_1 rfl ?_
  refine J_iload_n dX2_bitOf_2 rfl ?_
  refine J_callS2 moX2_numberOf jw_ml_X2_50 jw_st_X2_numberOf dX2_bitOf_3 (w_X2_numberOf_z (d - 1) _ x0 x1 (by omega)   (by omega) (by omega) (by omega) (by omega)) (by omega) (Nat.zero_le _) (Nat.zero_le _) (Nat.le_of_ble_eq_true rfl) (fun r3 V3 h3 => ?_)
  obtain ⟨⟨y3, rfl, hl3, hh3, hP3_0⟩, hE3⟩ := h3
  have hE3 := hE3.symm
  subst hE3
  clear hl3 hh3
  have hz3 : jEq y3.toInt (9 + (x0.toInt) + 8 * (x1.toInt)) := hP3_0
  clear hP3_0
  refine J_lshl dX2_bitOf_6 rfl ?_
  exact J_ret (r := some (.long _)) dX2_bitOf_7 ⟨rfl, rfl⟩ (⟨⟨_, rfl, (fun n => by rw [jbt_shl (by rw [hz3.eq]; omega) (by rw [hz3.eq]; omega), hz3.eq])⟩, rfl⟩)
set_option maxRecDepth 100000 in
set_option maxHeartbeats 8000000 in
theorem w_X2_isHole_z {tS : jTS} (d : Nat) (V0 : jH) (a0 : Nat) (x1 : Int32) (x2 : Int32) (op : Int64) (hd : 2 ≤ d) (hW : WT V0) (ha0 : jis V0 (.inr 0) a0) (hq_op : jfL V0 a0 0 3 op) (hp0 : 0 ≤ x1.toInt) (hp1 : x1.toInt ≤ 5) (hp2 : 0 ≤ x2.toInt) (hp3 : x2.toInt ≤ 5) : jTot tS mX2_isHole d [.ref a0, .int x1, .int x2] V0 0 0 (fun r V => (fun r _ => ∃ y : Int32, r = some (.int y) ∧ (0 ≤ y.toInt) ∧ (y.toInt ≤ 1) ∧ (jIf y 1 (jbt op (9 + x1.toInt + 8 * x2.toInt).toNat = false)) ∧ (jIf y 0 (jbt op (9 + x1.toInt + 8 * x2.toInt).toNat = true))) r V ∧ V = V0) := by
  refine jTot.of_J [some (.ref a0), some (.int x1), some (.int x2)] moX2_isHole (Nat.le_of_ble_eq_true rfl) rfl ?_
  have hrx1 := j_rng x1
  have hrx2 := j_rng x2
  have he : jeff [] V0 V0 := jeff.refl _ _
  obtain ⟨fs_a0, hO_a0, hK_a0⟩ := WT_obj hW id ha0
  have hF_op := hq_op.get hO_a0
  refine J_aload_n dX2_isHole_0 rfl ?_
  refine J_get jf_X2_22 dX2_isHole_1 hO_a0 hF_op ?_
  refine J_iload_n dX2_isHole_4 rfl ?_
  refine J_iload_n dX2_isHole_5 rfl ?_
  refine J_callS2 moX2_bitOf jw_ml_X2_46 jw_st_X2_bitOf dX2_isHole_6 (w_X2_bitOf_z (d - 1) _ x1 x2 (by omega)   (by omega) (by omega) (by omega) (by omega)) (by omega) (Nat.zero_le _) (Nat.zero_le _) (Nat.le_of_ble_eq_true rfl) (fun r6 V6 h6 => ?_)
  obtain ⟨⟨y6, rfl, hP6_0⟩, hE6⟩ := h6
  have hE6 := hE6.symm
  subst hE6
  refine J_land dX2_isHole_9 ?_
  refine J_lconst (v := 0) dX2_isHole_10 rfl ?_
  refine Jz_lcmp dX2_isHole_11 (fun y11 he11 => ?_)
  refine Jz_if_ne (tgt := 19) jEq.rf dX2_isHole_12 (by decide) (fun c12 => ?_) (fun c12 => ?_)
  · refine Jz_iconst 0 dX2_isHole_19 (by decide) (fun y19 he19 => ?_)
    exact J_ret (r := some (.int _)) dX2_isHole_20 ⟨rfl, _, rfl, (nar_b (by (try simp only [he19.eq, true_and, and_true]) <;> omega) (by (try simp only [he19.eq, true_and, and_true]) <;> omega))⟩ (⟨⟨_, rfl, (by (try simp only [he19.eq, true_and, and_true]) <;> omega), (by (try simp only [he19.eq, true_and, and_true]) <;> omega), (fun h => by rw [he19.eq] at h; omega), (fun _ => Eq.mp (Bool.not_eq_false _) (fun q => c12 (he11.mpr ((jbt_one (show ∀ n : Nat, jbt y6 n = decide (n = (9 + x1.toInt + 8 * x2.toInt).toNat) from fun n => (hP6_0 n).trans (decide_eq_decide.mpr (by omega)))).mpr q))))⟩, rfl⟩)
  · refine Jz_iconst 1 dX2_isHole_15 (by decide) (fun y15 he15 => ?_)
    refine J_goto (tgt := 20) dX2_isHole_16 (by decide) ?_
    exact J_ret (r := some (.int _)) dX2_isHole_20 ⟨rfl, _, rfl, (nar_b (by (try simp only [he15.eq, true_and, and_true]) <;> omega) (by (try simp only [he15.eq, true_and, and_true]) <;> omega))⟩ (⟨⟨_, rfl, (by (try simp only [he15.eq, true_and, and_true]) <;> omega), (by (try simp only [he15.eq, true_and, and_true]) <;> omega), (fun _ => (jbt_one (show ∀ n : Nat, jbt y6 n = decide (n = (9 + x1.toInt + 8 * x2.toInt).toNat) from fun n => (hP6_0 n).trans (decide_eq_decide.mpr (by omega)))).mp (he11.mp c12)), (fun h => by rw [he15.eq] at h; omega)⟩, rfl⟩)
set_option maxRecDepth 100000 in
set_option maxHeartbeats 8000000 in
theorem w_X2_turnOver_z {tS : jTS} (d : Nat) (V0 : jH) (a0 : Nat) (x1 : Int32) (x2 : Int32) (op : Int64) (hd : 2 ≤ d) (hW : WT V0) (ha0 : jis V0 (.inr 0) a0) (hq_op : jfL V0 a0 0 3 op) (hp0 : 0 ≤ x1.toInt) (hp1 : x1.toInt ≤ 5) (hp2 : 0 ≤ x2.toInt) (hp3 : x2.toInt ≤ 5) : jTot tS mX2_turnOver d [.ref a0, .int x1, .int x2] V0 0 0 (fun r V => (jPost [.inr 0] V0 rV) r V ∧ (∃ op2 : Int64, jfL V a0 0 3 op2 ∧ ∀ n : Nat, jbt op2 n = (jbt op n ^^ decide (n = (9 + x1.toInt + 8 * x2.toInt).toNat))) ∧ jkc 0 [1, 2] V0 V ∧ (∃ cn2 : Int32, jfI V a0 0 7 cn2 ∧ (cn2.toInt = 0))) := by
  refine jTot.of_J [some (.ref a0), some (.int x1), some (.int x2)] moX2_turnOver (Nat.le_of_ble_eq_true rfl) rfl ?_
  have hrx1 := j_rng x1
  have hrx2 := j_rng x2
  have he : jeff [.inr 0] V0 V0 := jeff.refl _ _
  have hkp : jkc 0 [1, 2] V0 V0 := jkc.rf
  obtain ⟨fs_a0, hO_a0, hK_a0⟩ := WT_obj hW id ha0
  have hF_op := hq_op.get hO_a0
  refine J_aload_n dX2_turnOver_0 rfl ?_
  refine J_dup dX2_turnOver_1 rfl ?_
  refine J_get jf_X2_22 dX2_turnOver_2 hO_a0 hF_op ?_
  refine J_iload_n dX2_turnOver_5 rfl ?_
  refine J_iload_n dX2_turnOver_6 rfl ?_
  refine J_callS2 moX2_bitOf jw_ml_X2_46 jw_st_X2_bitOf dX2_turnOver_7 (w_X2_bitOf_z (d - 1) _ x1 x2 (by omega)   (by omega) (by omega) (by omega) (by omega)) (by omega) (Nat.zero_le _) (Nat.zero_le _) (Nat.le_of_ble_eq_true rfl) (fun r7 V7 h7 => ?_)
  obtain ⟨⟨y7, rfl, hP7_0⟩, hE7⟩ := h7
  have hE7 := hE7.symm
  subst hE7
  refine J_lxor dX2_turnOver_10 ?_
  refine Jz_putL hO_a0 hW id rfl jf_X2_22 jt_X2_3 dX2_turnOver_11 rfl rfl (fun V11 fs11 hW hx11 hO11 hS11 hT11 hB11 => ?_)
  have hK11 : jokO _ (jFs 0) fs11 := hW _ _ id hO11
  have he := he.trans (hx11.sub (jsub_of rfl))
  have hkp := hkp.trans (jkc.put hO_a0 hO11 hT11 hB11 (by decide))
  have ha0 := ha0.mono hx11.1
  refine J_aload_n dX2_turnOver_14 rfl ?_
  refine Jz_iconst 0 dX2_turnOver_15 (by decide) (fun y15 he15 => ?_)
  refine Jz_putI hO11 hW id rfl jf_X2_35 jt_X2_7 he15 dX2_turnOver_16 (by omega) (by omega) (fun _ h => ⟨nar_b (by omega) (by omega), fit_b (by omega) (by omega)⟩) (fun V16 fs16 hW hx16 hO16 hS16 hT16 hB16 => ?_)
  have hK16 : jokO _ (jFs 0) fs16 := hW _ _ id hO16
  have hF16_3 := (hT16 3 (by decide)).trans hS11
  have he := he.trans (hx16.sub (jsub_of rfl))
  have hkp := hkp.trans (jkc.put hO11 hO16 hT16 hB16 (by decide))
  have ha0 := ha0.mono hx16.1
  exact J_ret (r := none) dX2_turnOver_19 ⟨rfl, rfl⟩ (⟨⟨hW, he, rfl⟩, ⟨_, ⟨_, hO16, hF16_3⟩, fun n => by rw [jbt_xor, hP7_0 n]; exact congrArg _ (decide_eq_decide.mpr (by omega))⟩, hkp, ⟨_, ⟨_, hO16, hS16⟩, (by (try simp only [he15.eq, true_and, and_true]) <;> omega)⟩⟩)
set_option maxRecDepth 100000 in
set_option maxHeartbeats 8000000 in
theorem w_X2_isCorner_z {tS : jTS} (d : Nat) (V0 : jH) (a0 : Nat) (x1 : Int32) (x2 : Int32) (w1 : Int32) (h1 : Int32) (hd : 0 ≤ d) (hW : WT V0) (ha0 : jis V0 (.inr 0) a0) (hf_w1 : jfI V0 a0 0 1 w1) (hf_h1 : jfI V0 a0 0 2 h1) (hp0 : 2 ≤ w1.toInt) (hp1 : 2 ≤ h1.toInt) : jTot tS mX2_isCorner d [.ref a0, .int x1, .int x2] V0 0 0 (fun r V => (fun r _ => ∃ y : Int32, r = some (.int y) ∧ (0 ≤ y.toInt) ∧ (y.toInt ≤ 1) ∧ ((y.toInt = 1 ∧ (x1.toInt = 0 ∧ x2.toInt = 0 ∨ x1.toInt = w1.toInt - 1 ∧ x2.toInt = h1.toInt - 1)) ∨ (y.toInt = 0 ∧ ¬ (x1.toInt = 0 ∧ x2.toInt = 0 ∨ x1.toInt = w1.toInt - 1 ∧ x2.toInt = h1.toInt - 1)))) r V ∧ V = V0) := by
  refine jTot.of_J [some (.ref a0), some (.int x1), some (.int x2)] moX2_isCorner (Nat.le_of_ble_eq_true rfl) rfl ?_
  have hrx1 := j_rng x1
  have hrx2 := j_rng x2
  have he : jeff [] V0 V0 := jeff.refl _ _
  obtain ⟨fs_a0, hO_a0, hK_a0⟩ := WT_obj hW id ha0
  have hF_w1 := hf_w1.get hO_a0
  have hrw1 : (-2147483648) ≤ w1.toInt ∧ w1.toInt ≤ 2147483647 := jok_rngI hK_a0 rfl hF_w1
  have hF_h1 := hf_h1.get hO_a0
  have hrh1 : (-2147483648) ≤ h1.toInt ∧ h1.toInt ≤ 2147483647 := jok_rngI hK_a0 rfl hF_h1
  refine J_iload_n dX2_isCorner_0 rfl ?_
  refine Jz_if_ne (tgt := 8) jEq.rf dX2_isCorner_1 (by decide) (fun c1 => ?_) (fun c1 => ?_)
  · refine J_iload_n dX2_isCorner_8 rfl ?_
    refine J_aload_n dX2_isCorner_9 rfl ?_
    refine J_get jf_X2_15 dX2_isCorner_10 hO_a0 hF_w1 ?_
    refine Jz_iconst 1 dX2_isCorner_13 (by decide) (fun y13 he13 => ?_)
    refine Jz_isub jEq.rf he13 dX2_isCorner_14 (by omega) (by omega) (fun y14 he14 => ?_)
    refine Jz_icmp_ne (tgt := 32) jEq.rf he14 dX2_isCorner_15 (by decide) (fun c15 => ?_) (fun c15 => ?_)
    · refine Jz_iconst 0 dX2_isCorner_32 (by decide) (fun y32 he32 => ?_)
      exact J_ret (r := some (.int _)) dX2_isCorner_33 ⟨rfl, _, rfl, (nar_b (by (try simp only [he32.eq, true_and, and_true]) <;> omega) (by (try simp only [he32.eq, true_and, and_true]) <;> omega))⟩ (⟨⟨_, rfl, (by (try simp only [he32.eq, true_and, and_true]) <;> omega), (by (try simp only [he32.eq, true_and, and_true]) <;> omega), (by (try simp only [he32.eq, true_and, and_true]) <;> omega)⟩, rfl⟩)
    · refine J_iload_n dX2_isCorner_18 rfl ?_
      refine J_aload_n dX2_isCorner_19 rfl ?_
      refine J_get jf_X2_19 dX2_isCorner_20 hO_a0 hF_h1 ?_
      refine Jz_iconst 1 dX2_isCorner_23 (by decide) (fun y23 he23 => ?_)
      refine Jz_isub jEq.rf he23 dX2_isCorner_24 (by omega) (by omega) (fun y24 he24 => ?_)
      refine Jz_icmp_ne (tgt := 32) jEq.rf he24 dX2_isCorner_25 (by decide) (fun c25 => ?_) (fun c25 => ?_)
      · refine Jz_iconst 0 dX2_isCorner_32 (by decide) (fun y32 he32 => ?_)
        exact J_ret (r := some (.int _)) dX2_isCorner_33 ⟨rfl, _, rfl, (nar_b (by (try simp only [he32.eq, true_and, and_true]) <;> omega) (by (try simp only [he32.eq, true_and, and_true]) <;> omega))⟩ (⟨⟨_, rfl, (by (try simp only [he32.eq, true_and, and_true]) <;> omega), (by (try simp only [he32.eq, true_and, and_true]) <;> omega), (by (try simp only [he32.eq, true_and, and_true]) <;> omega)⟩, rfl⟩)
      · refine Jz_iconst 1 dX2_isCorner_28 (by decide) (fun y28 he28 => ?_)
        refine J_goto (tgt := 33) dX2_isCorner_29 (by decide) ?_
        exact J_ret (r := some (.int _)) dX2_isCorner_33 ⟨rfl, _, rfl, (nar_b (by (try simp only [he28.eq, true_and, and_true]) <;> omega) (by (try simp only [he28.eq, true_and, and_true]) <;> omega))⟩ (⟨⟨_, rfl, (by (try simp only [he28.eq, true_and, and_true]) <;> omega), (by (try simp only [he28.eq, true_and, and_true]) <;> omega), (by (try simp only [he28.eq, true_and, and_true]) <;> omega)⟩, rfl⟩)
  · refine J_iload_n dX2_isCorner_4 rfl ?_
    refine Jz_if_eq (tgt := 28) jEq.rf dX2_isCorner_5 (by decide) (fun c5 => ?_) (fun c5 => ?_)
    · refine Jz_iconst 1 dX2_isCorner_28 (by decide) (fun y28 he28 => ?_)
      refine J_goto (tgt := 33) dX2_isCorner_29 (by decide) ?_
      exact J_ret (r := some (.int _)) dX2_isCorner_33 ⟨rfl, _, rfl, (nar_b (by (try simp only [he28.eq, true_and, and_true]) <;> omega) (by (try simp only [he28.eq, true_and, and_true]) <;> omega))⟩ (⟨⟨_, rfl, (by (try simp only [he28.eq, true_and, and_true]) <;> omega), (by (try simp only [he28.eq, true_and, and_true]) <;> omega), (by (try simp only [he28.eq, true_and, and_true]) <;> omega)⟩, rfl⟩)
    · refine J_iload_n dX2_isCorner_8 rfl ?_
      refine J_aload_n dX2_isCorner_9 rfl ?_
      refine J_get jf_X2_15 dX2_isCorner_10 hO_a0 hF_w1 ?_
      refine Jz_iconst 1 dX2_isCorner_13 (by decide) (fun y13 he13 => ?_)
      refine Jz_isub jEq.rf he13 dX2_isCorner_14 (by omega) (by omega) (fun y14 he14 => ?_)
      refine Jz_icmp_ne (tgt := 32) jEq.rf he14 dX2_isCorner_15 (by decide) (fun c15 => ?_) (fun c15 => ?_)
      · refine Jz_iconst 0 dX2_isCorner_32 (by decide) (fun y32 he32 => ?_)
        exact J_ret (r := some (.int _)) dX2_isCorner_33 ⟨rfl, _, rfl, (nar_b (by (try simp only [he32.eq, true_and, and_true]) <;> omega) (by (try simp only [he32.eq, true_and, and_true]) <;> omega))⟩ (⟨⟨_, rfl, (by (try simp only [he32.eq, true_and, and_true]) <;> omega), (by (try simp only [he32.eq, true_and, and_true]) <;> omega), (by (try simp only [he32.eq, true_and, and_true]) <;> omega)⟩, rfl⟩)
      · refine J_iload_n dX2_isCorner_18 rfl ?_
        refine J_aload_n dX2_isCorner_19 rfl ?_
        refine J_get jf_X2_19 dX2_isCorner_20 hO_a0 hF_h1 ?_
        refine Jz_iconst 1 dX2_isCorner_23 (by decide) (fun y23 he23 => ?_)
        refine Jz_isub jEq.rf he23 dX2_isCorner_24 (by omega) (by omega) (fun y24 he24 => ?_)
        refine Jz_icmp_ne (tgt := 32) jEq.rf he24 dX2_isCorner_25 (by decide) (fun c25 => ?_) (fun c25 => ?_)
        · refine Jz_iconst 0 dX2_isCorner_32 (by decide) (fun y32 he32 => ?_)
          exact J_ret (r := some (.int _)) dX2_isCorner_33 ⟨rfl, _, rfl, (nar_b (by (try simp only [he32.eq, true_and, and_true]) <;> omega) (by (try simp only [he32.eq, true_and, and_true]) <;> omega))⟩ (⟨⟨_, rfl, (by (try simp only [he32.eq, true_and, and_true]) <;> omega), (by (try simp only [he32.eq, true_and, and_true]) <;> omega), (by (try simp only [he32.eq, true_and, and_true]) <;> omega)⟩, rfl⟩)
        · refine Jz_iconst 1 dX2_isCorner_28 (by decide) (fun y28 he28 => ?_)
          refine J_goto (tgt := 33) dX2_isCorner_29 (by decide) ?_
          exact J_ret (r := some (.int _)) dX2_isCorner_33 ⟨rfl, _, rfl, (nar_b (by (try simp only [he28.eq, true_and, and_true]) <;> omega) (by (try simp only [he28.eq, true_and, and_true]) <;> omega))⟩ (⟨⟨_, rfl, (by (try simp only [he28.eq, true_and, and_true]) <;> omega), (by (try simp only [he28.eq, true_and, and_true]) <;> omega), (by (try simp only [he28.eq, true_and, and_true]) <;> omega)⟩, rfl⟩)
set_option maxRecDepth 100000 in
set_option maxHeartbeats 8000000 in
theorem w_X2_lay_z {tS : jTS} (d : Nat) (V0 : jH) {p : Nat → Prop} (a0 : Nat) (x1 : Int32) (x2 : Int32) (hd : 2 ≤ d) (hW : WTx p V0) (hnp : ¬ p a0) (ha0 : jis V0 (.inr 0) a0) (hp0 : 2 ≤ x1.toInt) (hp1 : x1.toInt ≤ 6) (hp2 : 2 ≤ x2.toInt) (hp3 : x2.toInt ≤ 6) : jTot tS mX2_lay d [.ref a0, .int x1, .int x2] V0 0 0 (fun r V => (jPostP p [.inr 0] V0 rV) r V ∧ (∃ op2 : Int64, jfL V a0 0 3 op2 ∧ ∀ n : Nat, jbt op2 n = true ↔ ∃ x y : Nat, ((x : Int) < x1.toInt ∧ (y : Int) < x2.toInt) ∧ n = 9 + x + 8 * y) ∧ (∃ w1 : Int32, jfI V a0 0 1 w1 ∧ (w1.toInt = x1.toInt)) ∧ (∃ h1 : Int32, jfI V a0 0 2 h1 ∧ (h1.toInt = x2.toInt)) ∧ (∃ cn2 : Int32, jfI V a0 0 7 cn2 ∧ (cn2.toInt = 0))) := by
  refine jTot.of_J [some (.ref a0), some (.int x1), some (.int x2), none, none] moX2_lay (Nat.le_of_ble_eq_true rfl) rfl ?_
  have hrx1 := j_rng x1
  have hrx2 := j_rng x2
  have he : jeff [.inr 0] V0 V0 := jeff.refl _ _
  refine J_aload_n dX2_lay_0 rfl ?_
  refine J_iload_n dX2_lay_1 rfl ?_
  obtain ⟨fs2o, hO2o, hK2o⟩ := WT_obj hW hnp ha0
  refine Jz_putI hO2o hW hnp rfl jf_X2_15 jt_X2_1 jEq.rf dX2_lay_2 (j_rng _).1 (j_rng _).2 (fun _ _ => ⟨rfl, rfl⟩) (fun V2 fs2 hW hx2 hO2 hS2 hT2 hB2 => ?_)
  have hK2 : jokO _ (jFs 0) fs2 := hW _ _ hnp hO2
  have he := he.trans (hx2.sub (jsub_of rfl))
  have ha0 := ha0.mono hx2.1
  refine J_aload_n dX2_lay_5 rfl ?_
  refine J_iload_n dX2_lay_6 rfl ?_
  refine Jz_putI hO2 hW hnp rfl jf_X2_19 jt_X2_2 jEq.rf dX2_lay_7 (j_rng _).1 (j_rng _).2 (fun _ _ => ⟨rfl, rfl⟩) (fun V7 fs7 hW hx7 hO7 hS7 hT7 hB7 => ?_)
  have hK7 : jokO _ (jFs 0) fs7 := hW _ _ hnp hO7
  have hF7_1 := (hT7 1 (by decide)).trans hS2
  have he := he.trans (hx7.sub (jsub_of rfl))
  have ha0 := ha0.mono hx7.1
  refine J_aload_n dX2_lay_10 rfl ?_
  refine J_lconst (v := 0) dX2_lay_11 rfl ?_
  refine Jz_putL hO7 hW hnp rfl jf_X2_22 jt_X2_3 dX2_lay_12 rfl rfl (fun V12 fs12 hW hx12 hO12 hS12 hT12 hB12 => ?_)
  have hK12 : jokO _ (jFs 0) fs12 := hW _ _ hnp hO12
  have hF12_2 := (hT12 2 (by decide)).trans hS7
  have hF12_1 := (hT12 1 (by decide)).trans hF7_1
  have he := he.trans (hx12.sub (jsub_of rfl))
  have ha0 := ha0.mono hx12.1
  refine Jz_iconst 0 dX2_lay_15 (by decide) (fun y15 he15 => ?_)
  refine J_istore_n dX2_lay_16 rfl (by decide) ?_
  have L17 : ∀ (N : Nat) (V : jH) (i3n17 : Int32) (gs17a0 : List Value) (g3n17 : Int64), WTx p V → jeff [.inr 0] V0 V → (jis V (.inr 0) a0) → (V a0 = some (.inr (0, gs17a0))) → (gs17a0[3]? = some (.long g3n17)) → (gs17a0[2]? = some (.int x2)) → (gs17a0[1]? = some (.int x1)) → (0 ≤ i3n17.toInt ∧ i3n17.toInt ≤ x2.toInt) → (∀ n : Nat, jbt g3n17 n = true ↔ ∃ x y : Nat, ((x : Int) < x1.toInt ∧ (y : Int) < i3n17.toInt) ∧ n = 9 + x + 8 * y) → (300 - i3n17.toInt).toNat < N → J tS mX2_lay d 17 [some (.ref a0), some (.int x1), some (.int x2), some (.int i3n17), none] [] V 0 0 (fun r V => (jPostP p [.inr 0] V0 rV) r V ∧ (∃ op2 : Int64, jfL V a0 0 3 op2 ∧ ∀ n : Nat, jbt op2 n = true ↔ ∃ x y : Nat, ((x : Int) < x1.toInt ∧ (y : Int) < x2.toInt) ∧ n = 9 + x + 8 * y) ∧ (∃ w1 : Int32, jfI V a0 0 1 w1 ∧ (w1.toInt = x1.toInt)) ∧ (∃ h1 : Int32, jfI V a0 0 2 h1 ∧ (h1.toInt = x2.toInt)) ∧ (∃ cn2 : Int32, jfI V a0 0 7 cn2 ∧ (cn2.toInt = 0))) := by
    intro N
    induction N with
    | zero => intro V i3n17 gs17a0 g3n17 hW he ha0 hOgs17a0 hFgs17a0_3 hFgs17a0_2 hFgs17a0_1 hi3 hb hm; exact absurd hm (Nat.not_lt_zero _)
    | succ N ih =>
      intro V i3n17 gs17a0 g3n17 hW he ha0 hOgs17a0 hFgs17a0_3 hFgs17a0_2 hFgs17a0_1 hi3 hb hm
      have ih17 := ih
      have hri3 := j_rng i3n17
      have hKgs17a0 : jokO V (jFs 0) gs17a0 := hW _ _ hnp hOgs17a0
      refine J_iload_n dX2_lay_17 rfl ?_
      refine J_aload_n dX2_lay_18 rfl ?_
      refine J_get jf_X2_19 dX2_lay_19 hOgs17a0 hFgs17a0_2 ?_
      refine Jz_icmp_ge (tgt := 64) jEq.rf jEq.rf dX2_lay_22 (by decide) (fun c22 => ?_) (fun c22 => ?_)
      · refine J_aload_n dX2_lay_64 rfl ?_
        refine Jz_iconst 0 dX2_lay_65 (by decide) (fun y65 he65 => ?_)
        refine Jz_putI hOgs17a0 hW hnp rfl jf_X2_35 jt_X2_7 he65 dX2_lay_66 (by omega) (by omega) (fun _ h => ⟨nar_b (by omega) (by omega), fit_b (by omega) (by omega)⟩) (fun V66 fs66 hW hx66 hO66 hS66 hT66 hB66 => ?_)
        have hK66 : jokO _ (jFs 0) fs66 := hW _ _ hnp hO66
        have hF66_3 := (hT66 3 (by decide)).trans hFgs17a0_3
        have hF66_2 := (hT66 2 (by decide)).trans hFgs17a0_2
        have hF66_1 := (hT66 1 (by decide)).trans hFgs17a0_1
        have he := he.trans (hx66.sub (jsub_of rfl))
        have ha0 := ha0.mono hx66.1
        exact J_ret (r := none) dX2_lay_69 ⟨rfl, rfl⟩ (⟨⟨hW, he, rfl⟩, ⟨_, ⟨_, hO66, hF66_3⟩, fun n => (hb n).trans ⟨fun ⟨x, y, q, e⟩ => ⟨x, y, by omega, e⟩, fun ⟨x, y, q, e⟩ => ⟨x, y, by omega, e⟩⟩⟩, ⟨_, ⟨_, hO66, hF66_1⟩, (by omega)⟩, ⟨_, ⟨_, hO66, hF66_2⟩, (by omega)⟩, ⟨_, ⟨_, hO66, hS66⟩, (by (try simp only [he65.eq, true_and, and_true]) <;> omega)⟩⟩)
      · refine Jz_iconst 0 dX2_lay_25 (by decide) (fun y25 he25 => ?_)
        refine J_istore dX2_lay_26 rfl (by decide) ?_
        have L28 : ∀ (N : Nat) (V : jH) (i4n28 : Int32) (gs28a0 : List Value) (g3n28 : Int64), WTx p V → jeff [.inr 0] V0 V → (jis V (.inr 0) a0) → (V a0 = some (.inr (0, gs28a0))) → (gs28a0[3]? = some (.long g3n28)) → (gs28a0[2]? = some (.int x2)) → (gs28a0[1]? = some (.int x1)) → (0 ≤ i4n28.toInt ∧ i4n28.toInt ≤ x1.toInt) → (∀ n : Nat, jbt g3n28 n = true ↔ ∃ x y : Nat, ((x : Int) < x1.toInt ∧ (y : Int) < i3n17.toInt ∨ (y : Int) = i3n17.toInt ∧ (x : Int) < i4n28.toInt) ∧ n = 9 + x + 8 * y) → (300 - i4n28.toInt).toNat < N → J tS mX2_lay d 28 [some (.ref a0), some (.int x1), some (.int x2), some (.int i3n17), some (.int i4n28)] [] V 0 0 (fun r V => (jPostP p [.inr 0] V0 rV) r V ∧ (∃ op2 : Int64, jfL V a0 0 3 op2 ∧ ∀ n : Nat, jbt op2 n = true ↔ ∃ x y : Nat, ((x : Int) < x1.toInt ∧ (y : Int) < x2.toInt) ∧ n = 9 + x + 8 * y) ∧ (∃ w1 : Int32, jfI V a0 0 1 w1 ∧ (w1.toInt = x1.toInt)) ∧ (∃ h1 : Int32, jfI V a0 0 2 h1 ∧ (h1.toInt = x2.toInt)) ∧ (∃ cn2 : Int32, jfI V a0 0 7 cn2 ∧ (cn2.toInt = 0))) := by
          intro N
          induction N with
          | zero => intro V i4n28 gs28a0 g3n28 hW he ha0 hOgs28a0 hFgs28a0_3 hFgs28a0_2 hFgs28a0_1 hi4 hb2 hm; exact absurd hm (Nat.not_lt_zero _)
          | succ N ih =>
            intro V i4n28 gs28a0 g3n28 hW he ha0 hOgs28a0 hFgs28a0_3 hFgs28a0_2 hFgs28a0_1 hi4 hb2 hm
            have ih28 := ih
            have hri4 := j_rng i4n28
            have hKgs28a0 : jokO V (jFs 0) gs28a0 := hW _ _ hnp hOgs28a0
            refine J_iload dX2_lay_28 rfl ?_
            refine J_aload_n dX2_lay_30 rfl ?_
            refine J_get jf_X2_15 dX2_lay_31 hOgs28a0 hFgs28a0_1 ?_
            refine Jz_icmp_ge (tgt := 58) jEq.rf jEq.rf dX2_lay_34 (by decide) (fun c34 => ?_) (fun c34 => ?_)
            · refine Jz_iinc 1 dX2_lay_58 rfl rfl (by decide) jEq.rf (by decide) (by omega) (by omega) (fun y58 he58 => ?_)
              refine J_goto (tgt := 17) dX2_lay_61 (by decide) ?_
              refine J.mask [true, true, true, true, false] ?_
              exact ih17 _ y58 gs28a0 g3n28 hW he ha0 hOgs28a0 hFgs28a0_3 hFgs28a0_2 hFgs28a0_1 (by (try simp only [he58.eq, true_and, and_true]) <;> omega) (fun n => (hb2 n).trans ⟨fun ⟨x, y, q, e⟩ => ⟨x, y, by rw [he58.eq]; omega, e⟩, fun ⟨x, y, q, e⟩ => ⟨x, y, by rw [he58.eq] at q; omega, e⟩⟩) (by (try simp only [he58.eq, true_and, and_true]) <;> omega)
            · refine J_aload_n dX2_lay_37 rfl ?_
              refine J_dup dX2_lay_38 rfl ?_
              refine J_get jf_X2_22 dX2_lay_39 hOgs28a0 hFgs28a0_3 ?_
              refine J_iload dX2_lay_42 rfl ?_
              refine J_iload_n dX2_lay_44 rfl ?_
              refine J_callS2 moX2_bitOf jw_ml_X2_46 jw_st_X2_bitOf dX2_lay_45 (w_X2_bitOf_z (d - 1) _ i4n28 i3n17 (by omega)   (by omega) (by omega) (by omega) (by omega)) (by omega) (Nat.zero_le _) (Nat.zero_le _) (Nat.le_of_ble_eq_true rfl) (fun r45 V45 h45 => ?_)
              obtain ⟨⟨y45, rfl, hP45_0⟩, hE45⟩ := h45
              have hE45 := hE45.symm
              subst hE45
              refine J_lor dX2_lay_48 ?_
              refine Jz_putL hOgs28a0 hW hnp rfl jf_X2_22 jt_X2_3 dX2_lay_49 rfl rfl (fun V49 fs49 hW hx49 hO49 hS49 hT49 hB49 => ?_)
              have hK49 : jokO _ (jFs 0) fs49 := hW _ _ hnp hO49
              have hF49_2 := (hT49 2 (by decide)).trans hFgs28a0_2
              have hF49_1 := (hT49 1 (by decide)).trans hFgs28a0_1
              have he := he.trans (hx49.sub (jsub_of rfl))
              have ha0 := ha0.mono hx49.1
              refine Jz_iinc 1 dX2_lay_52 rfl rfl (by decide) jEq.rf (by decide) (by omega) (by omega) (fun y52 he52 => ?_)
              refine J_goto (tgt := 28) dX2_lay_55 (by decide) ?_
              refine J.mask [true, true, true, true, true] ?_
              exact ih28 _ y52 fs49 (g3n28 ||| y45) hW he ha0 hO49 hS49 hF49_2 hF49_1 (by (try simp only [he52.eq, true_and, and_true]) <;> omega) (fun n => by
   rw [jbt_or, hP45_0 n, Bool.or_eq_true, hb2 n, decide_eq_true_iff, he52.eq]
   constructor
   · rintro (⟨x, y, q, e⟩ | q)
     · exact ⟨x, y, by omega, e⟩
     · exact ⟨i4n28.toInt.toNat, i3n17.toInt.toNat, by omega, by omega⟩
   · rintro ⟨x, y, q, e⟩
     by_cases h9 : (n : Int) = 9 + i4n28.toInt + 8 * i3n17.toInt
     · exact Or.inr h9
     · exact Or.inl ⟨x, y, by omega, e⟩) (by (try simp only [he52.eq, true_and, and_true]) <;> omega)
        refine J.mask [true, true, true, true, true] ?_
        exact L28 _ _ y25 gs17a0 g3n17 hW he ha0 hOgs17a0 hFgs17a0_3 hFgs17a0_2 hFgs17a0_1 (by (try simp only [he25.eq, true_and, and_true]) <;> omega) (fun n => (hb n).trans ⟨fun ⟨x, y, q, e⟩ => ⟨x, y, Or.inl q, e⟩, fun ⟨x, y, q, e⟩ => ⟨x, y, by rw [he25.eq] at q; omega, e⟩⟩) (Nat.lt_succ_self _)
  refine J.mask [true, true, true, true, false] ?_
  exact L17 _ _ y15 fs12 (0 : Int64) hW he ha0 hO12 hS12 hF12_2 hF12_1 (by (try simp only [he15.eq, true_and, and_true]) <;> omega) (fun n => ⟨fun q => absurd q (by rw [jbt_zero]; decide), fun ⟨x, y, q, _⟩ => absurd q.2 (by rw [he15.eq]; omega)⟩) (Nat.lt_succ_self _)
set_option maxRecDepth 100000 in
set_option maxHeartbeats 8000000 in
theorem w_X6_hole_out {tS : jTS} (d : Nat) (V0 : jH) (a0 : Nat) (x1 : Int32) (x2 : Int32) (x3 : Int32) (pl : Nat) (pw : Int32) (ph : Int32) (po : Int64) (hd : 3 ≤ d) (hW : WT V0) (ha0 : jis V0 (.inr 4) a0) (hl3 : 0 ≤ x3.toInt) (hh3 : x3.toInt ≤ 1) (hr_pl : jfR V0 a0 4 6 pl) (hpw : jfI V0 pl 0 1 pw) (hph : jfI V0 pl 0 2 ph) (hpo : jfL V0 pl 0 3 po) (hp0 : 2 ≤ pw.toInt) (hp1 : pw.toInt ≤ 6) (hp2 : 2 ≤ ph.toInt) (hp3 : ph.toInt ≤ 6) (hp4 : ¬ (0 ≤ x1.toInt ∧ x1.toInt < pw.toInt ∧ 0 ≤ x2.toInt ∧ x2.toInt < ph.toInt)) : jTot tS mX6_hole d [.ref a0, .int x1, .int x2, .int x3] V0 0 0 (fun r V => (fun r _ => ∃ y : Int32, r = some (.int y) ∧ ((-2147483648) ≤ y.toInt) ∧ (y.toInt ≤ 2147483647) ∧ (y.toInt = -2)) r V ∧ V = V0) := by
  refine jTot.of_J [some (.ref a0), some (.int x1), some (.int x2), some (.int x3)] moX6_hole (Nat.le_of_ble_eq_true rfl) rfl ?_
  have hrx1 := j_rng x1
  have hrx2 := j_rng x2
  have he : jeff [] V0 V0 := jeff.refl _ _
  obtain ⟨fs_a0, hO_a0, hK_a0⟩ := WT_obj hW id ha0
  have hF_pl := hr_pl.get hO_a0
  obtain ⟨w_pl, hFq_pl, b_pl, hbq_pl, hb_pl⟩ := hK_a0.2 6 (.inr (some (.inr 0))) rfl
  cases hF_pl.symm.trans (hFq_pl.trans (congrArg some hbq_pl))
  obtain ⟨fsp, hOp, hKp⟩ := WT_obj hW id hb_pl
  have hFpw := hpw.get hOp
  have hFph := hph.get hOp
  have hFpo := hpo.get hOp
  refine J_iload_n dX6_hole_0 rfl ?_
  refine Jz_if_lt (tgt := 30) jEq.rf dX6_hole_1 (by decide) (fun c1 => ?_) (fun c1 => ?_)
  · refine Jz_bipush (-2) dX6_hole_30 (by decide) (fun y30 he30 => ?_)
    exact J_ret (r := some (.int _)) dX6_hole_32 ⟨rfl, _, rfl, rfl⟩ (⟨⟨_, rfl, (j_rng _).1, (j_rng _).2, (by (try simp only [he30.eq, true_and, and_true]) <;> omega)⟩, rfl⟩)
  · refine J_iload_n dX6_hole_4 rfl ?_
    refine J_aload_n dX6_hole_5 rfl ?_
    refine J_get jf_X6_42 dX6_hole_6 hO_a0 hF_pl ?_
    refine J_get jf_X6_205 dX6_hole_9 hOp hFpw ?_
    refine Jz_icmp_ge (tgt := 30) jEq.rf jEq.rf dX6_hole_12 (by decide) (fun c12 => ?_) (fun c12 => ?_)
    · refine Jz_bipush (-2) dX6_hole_30 (by decide) (fun y30 he30 => ?_)
      exact J_ret (r := some (.int _)) dX6_hole_32 ⟨rfl, _, rfl, rfl⟩ (⟨⟨_, rfl, (j_rng _).1, (j_rng _).2, (by (try simp only [he30.eq, true_and, and_true]) <;> omega)⟩, rfl⟩)
    · refine J_iload_n dX6_hole_15 rfl ?_
      refine Jz_if_lt (tgt := 30) jEq.rf dX6_hole_16 (by decide) (fun c16 => ?_) (fun c16 => ?_)
      · refine Jz_bipush (-2) dX6_hole_30 (by decide) (fun y30 he30 => ?_)
        exact J_ret (r := some (.int _)) dX6_hole_32 ⟨rfl, _, rfl, rfl⟩ (⟨⟨_, rfl, (j_rng _).1, (j_rng _).2, (by (try simp only [he30.eq, true_and, and_true]) <;> omega)⟩, rfl⟩)
      · refine J_iload_n dX6_hole_19 rfl ?_
        refine J_aload_n dX6_hole_20 rfl ?_
        refine J_get jf_X6_42 dX6_hole_21 hO_a0 hF_pl ?_
        refine J_get jf_X6_208 dX6_hole_24 hOp hFph ?_
        refine Jz_icmp_lt (tgt := 33) jEq.rf jEq.rf dX6_hole_27 (by decide) (fun c27 => ?_) (fun c27 => ?_)
        · exact False.elim (by omega)
        · refine Jz_bipush (-2) dX6_hole_30 (by decide) (fun y30 he30 => ?_)
          exact J_ret (r := some (.int _)) dX6_hole_32 ⟨rfl, _, rfl, rfl⟩ (⟨⟨_, rfl, (j_rng _).1, (j_rng _).2, (by (try simp only [he30.eq, true_and, and_true]) <;> omega)⟩, rfl⟩)
set_option maxRecDepth 100000 in
set_option maxHeartbeats 8000000 in
theorem w_X6_hole_same {tS : jTS} (d : Nat) (V0 : jH) (a0 : Nat) (x1 : Int32) (x2 : Int32) (x3 : Int32) (pl : Nat) (pw : Int32) (ph : Int32) (po : Int64) (hd : 3 ≤ d) (hW : WT V0) (ha0 : jis V0 (.inr 4) a0) (hl3 : 0 ≤ x3.toInt) (hh3 : x3.toInt ≤ 1) (hr_pl : jfR V0 a0 4 6 pl) (hpw : jfI V0 pl 0 1 pw) (hph : jfI V0 pl 0 2 ph) (hpo : jfL V0 pl 0 3 po) (hp0 : 2 ≤ pw.toInt) (hp1 : pw.toInt ≤ 6) (hp2 : 2 ≤ ph.toInt) (hp3 : ph.toInt ≤ 6) (hp4 : 0 ≤ x1.toInt ∧ x1.toInt < pw.toInt ∧ 0 ≤ x2.toInt ∧ x2.toInt < ph.toInt) (hp5 : jbt po (9 + x1.toInt + 8 * x2.toInt).toNat = decide (x3.toInt = 0) ∨ (x1.toInt = 0 ∧ x2.toInt = 0 ∨ x1.toInt = pw.toInt - 1 ∧ x2.toInt = ph.toInt - 1)) : jTot tS mX6_hole d [.ref a0, .int x1, .int x2, .int x3] V0 0 0 (fun r V => (fun r _ => ∃ y : Int32, r = some (.int y) ∧ ((-2147483648) ≤ y.toInt) ∧ (y.toInt ≤ 2147483647) ∧ (y.toInt = -3)) r V ∧ V = V0) := by
  refine jTot.of_J [some (.ref a0), some (.int x1), some (.int x2), some (.int x3)] moX6_hole (Nat.le_of_ble_eq_true rfl) rfl ?_
  have hrx1 := j_rng x1
  have hrx2 := j_rng x2
  have he : jeff [] V0 V0 := jeff.refl _ _
  obtain ⟨fs_a0, hO_a0, hK_a0⟩ := WT_obj hW id ha0
  have hF_pl := hr_pl.get hO_a0
  obtain ⟨w_pl, hFq_pl, b_pl, hbq_pl, hb_pl⟩ := hK_a0.2 6 (.inr (some (.inr 0))) rfl
  cases hF_pl.symm.trans (hFq_pl.trans (congrArg some hbq_pl))
  obtain ⟨fsp, hOp, hKp⟩ := WT_obj hW id hb_pl
  have hFpw := hpw.get hOp
  have hFph := hph.get hOp
  have hFpo := hpo.get hOp
  refine J_iload_n dX6_hole_0 rfl ?_
  refine Jz_if_lt (tgt := 30) jEq.rf dX6_hole_1 (by decide) (fun c1 => ?_) (fun c1 => ?_)
  · exact False.elim (by omega)
  · refine J_iload_n dX6_hole_4 rfl ?_
    refine J_aload_n dX6_hole_5 rfl ?_
    refine J_get jf_X6_42 dX6_hole_6 hO_a0 hF_pl ?_
    refine J_get jf_X6_205 dX6_hole_9 hOp hFpw ?_
    refine Jz_icmp_ge (tgt := 30) jEq.rf jEq.rf dX6_hole_12 (by decide) (fun c12 => ?_) (fun c12 => ?_)
    · exact False.elim (by omega)
    · refine J_iload_n dX6_hole_15 rfl ?_
      refine Jz_if_lt (tgt := 30) jEq.rf dX6_hole_16 (by decide) (fun c16 => ?_) (fun c16 => ?_)
      · exact False.elim (by omega)
      · refine J_iload_n dX6_hole_19 rfl ?_
        refine J_aload_n dX6_hole_20 rfl ?_
        refine J_get jf_X6_42 dX6_hole_21 hO_a0 hF_pl ?_
        refine J_get jf_X6_208 dX6_hole_24 hOp hFph ?_
        refine Jz_icmp_lt (tgt := 33) jEq.rf jEq.rf dX6_hole_27 (by decide) (fun c27 => ?_) (fun c27 => ?_)
        · refine J_aload_n dX6_hole_33 rfl ?_
          refine J_get jf_X6_42 dX6_hole_34 hO_a0 hF_pl ?_
          refine J_iload_n dX6_hole_37 rfl ?_
          refine J_iload_n dX6_hole_38 rfl ?_
          refine Jw_callV2 (q9 := (RX2, TX2, 9)) moX2_isHole jw_ml_X6_211 jw_im_X2_isHole jw_se_X2_isHole hb_pl rfl rfl dX6_hole_39 (w_X2_isHole_z (d - 1) _ pl x1 x2 po (by omega) hW  hb_pl ⟨_, hOp, hFpo⟩ (by omega) (by omega) (by omega) (by omega)) (by omega) (Nat.zero_le _) (Nat.zero_le _) (Nat.le_of_ble_eq_true rfl) (fun r39 V39 h39 => ?_)
          obtain ⟨⟨y39, rfl, hl39, hh39, hI39_0, hI39_1⟩, hE39⟩ := h39
          have hE39 := hE39.symm
          subst hE39
          refine J_iload_n dX6_hole_42 rfl ?_
          refine Jz_icmp_eq (tgt := 58) jEq.rf jEq.rf dX6_hole_43 (by decide) (fun c43 => ?_) (fun c43 => ?_)
          · refine Jz_bipush (-3) dX6_hole_58 (by decide) (fun y58 he58 => ?_)
            exact J_ret (r := some (.int _)) dX6_hole_60 ⟨rfl, _, rfl, rfl⟩ (⟨⟨_, rfl, (j_rng _).1, (j_rng _).2, (by (try simp only [he58.eq, true_and, and_true]) <;> omega)⟩, rfl⟩)
          · refine J_aload_n dX6_hole_46 rfl ?_
            refine J_get jf_X6_42 dX6_hole_47 hO_a0 hF_pl ?_
            refine J_iload_n dX6_hole_50 rfl ?_
            refine J_iload_n dX6_hole_51 rfl ?_
            refine Jw_callV2 (q9 := (RX2, TX2, 9)) moX2_isCorner jw_ml_X6_214 jw_im_X2_isCorner jw_se_X2_isCorner hb_pl rfl rfl dX6_hole_52 (w_X2_isCorner_z (d - 1) _ pl x1 x2 pw ph (by omega) hW  hb_pl ⟨_, hOp, hFpw⟩ ⟨_, hOp, hFph⟩ (by omega) (by omega)) (by omega) (Nat.zero_le _) (Nat.zero_le _) (Nat.le_of_ble_eq_true rfl) (fun r52 V52 h52 => ?_)
            obtain ⟨⟨y52, rfl, hl52, hh52, hP52_0⟩, hE52⟩ := h52
            have hE52 := hE52.symm
            subst hE52
            refine Jz_if_eq (tgt := 61) jEq.rf dX6_hole_55 (by decide) (fun c55 => ?_) (fun c55 => ?_)
            · exact False.elim (by
    rcases hp5 with h9 | h9
    · rcases (show y39.toInt = 1 ∨ y39.toInt = 0 by omega) with h8 | h8
      · have q := hI39_0.of h8
        rw [h9] at q
        have q2 := of_decide_eq_false q
        omega
      · have q := hI39_1.of h8
        rw [h9] at q
        have q2 := of_decide_eq_true q
        omega
    · omega)
            · refine Jz_bipush (-3) dX6_hole_58 (by decide) (fun y58 he58 => ?_)
              exact J_ret (r := some (.int _)) dX6_hole_60 ⟨rfl, _, rfl, rfl⟩ (⟨⟨_, rfl, (j_rng _).1, (j_rng _).2, (by (try simp only [he58.eq, true_and, and_true]) <;> omega)⟩, rfl⟩)
        · exact False.elim (by omega)
set_option maxRecDepth 100000 in
set_option maxHeartbeats 8000000 in
theorem w_X6_hole_turn {tS : jTS} (d : Nat) (V0 : jH) (a0 : Nat) (x1 : Int32) (x2 : Int32) (x3 : Int32) (pl : Nat) (pw : Int32) (ph : Int32) (po : Int64) (hd : 3 ≤ d) (hW : WT V0) (ha0 : jis V0 (.inr 4) a0) (hl3 : 0 ≤ x3.toInt) (hh3 : x3.toInt ≤ 1) (hr_pl : jfR V0 a0 4 6 pl) (hpw : jfI V0 pl 0 1 pw) (hph : jfI V0 pl 0 2 ph) (hpo : jfL V0 pl 0 3 po) (hp0 : 2 ≤ pw.toInt) (hp1 : pw.toInt ≤ 6) (hp2 : 2 ≤ ph.toInt) (hp3 : ph.toInt ≤ 6) (hp4 : 0 ≤ x1.toInt ∧ x1.toInt < pw.toInt ∧ 0 ≤ x2.toInt ∧ x2.toInt < ph.toInt) (hp5 : jbt po (9 + x1.toInt + 8 * x2.toInt).toNat = decide (x3.toInt = 1)) (hp6 : ¬ (x1.toInt = 0 ∧ x2.toInt = 0 ∨ x1.toInt = pw.toInt - 1 ∧ x2.toInt = ph.toInt - 1)) : jTot tS mX6_hole d [.ref a0, .int x1, .int x2, .int x3] V0 0 0 (fun r V => (jPost [.inr 0] V0 (fun r _ => ∃ y : Int32, r = some (.int y) ∧ ((-2147483648) ≤ y.toInt) ∧ (y.toInt ≤ 2147483647) ∧ (y.toInt = 1))) r V ∧ jkc 0 [1, 2] V0 V ∧ (∃ op2 : Int64, jfL V pl 0 3 op2 ∧ ∀ n : Nat, jbt op2 n = (jbt po n ^^ decide (n = (9 + x1.toInt + 8 * x2.toInt).toNat))) ∧ (∃ cn2 : Int32, jfI V pl 0 7 cn2 ∧ cn2.toInt = 0)) := by
  refine jTot.of_J [some (.ref a0), some (.int x1), some (.int x2), some (.int x3)] moX6_hole (Nat.le_of_ble_eq_true rfl) rfl ?_
  have hrx1 := j_rng x1
  have hrx2 := j_rng x2
  have he : jeff [.inr 0] V0 V0 := jeff.refl _ _
  obtain ⟨fs_a0, hO_a0, hK_a0⟩ := WT_obj hW id ha0
  have hF_pl := hr_pl.get hO_a0
  obtain ⟨w_pl, hFq_pl, b_pl, hbq_pl, hb_pl⟩ := hK_a0.2 6 (.inr (some (.inr 0))) rfl
  cases hF_pl.symm.trans (hFq_pl.trans (congrArg some hbq_pl))
  obtain ⟨fsp, hOp, hKp⟩ := WT_obj hW id hb_pl
  have hFpw := hpw.get hOp
  have hFph := hph.get hOp
  have hFpo := hpo.get hOp
  refine J_iload_n dX6_hole_0 rfl ?_
  refine Jz_if_lt (tgt := 30) jEq.rf dX6_hole_1 (by decide) (fun c1 => ?_) (fun c1 => ?_)
  · exact False.elim (by omega)
  · refine J_iload_n dX6_hole_4 rfl ?_
    refine J_aload_n dX6_hole_5 rfl ?_
    refine J_get jf_X6_42 dX6_hole_6 hO_a0 hF_pl ?_
    refine J_get jf_X6_205 dX6_hole_9 hOp hFpw ?_
    refine Jz_icmp_ge (tgt := 30) jEq.rf jEq.rf dX6_hole_12 (by decide) (fun c12 => ?_) (fun c12 => ?_)
    · exact False.elim (by omega)
    · refine J_iload_n dX6_hole_15 rfl ?_
      refine Jz_if_lt (tgt := 30) jEq.rf dX6_hole_16 (by decide) (fun c16 => ?_) (fun c16 => ?_)
      · exact False.elim (by omega)
      · refine J_iload_n dX6_hole_19 rfl ?_
        refine J_aload_n dX6_hole_20 rfl ?_
        refine J_get jf_X6_42 dX6_hole_21 hO_a0 hF_pl ?_
        refine J_get jf_X6_208 dX6_hole_24 hOp hFph ?_
        refine Jz_icmp_lt (tgt := 33) jEq.rf jEq.rf dX6_hole_27 (by decide) (fun c27 => ?_) (fun c27 => ?_)
        · refine J_aload_n dX6_hole_33 rfl ?_
          refine J_get jf_X6_42 dX6_hole_34 hO_a0 hF_pl ?_
          refine J_iload_n dX6_hole_37 rfl ?_
          refine J_iload_n dX6_hole_38 rfl ?_
          refine Jw_callV2 (q9 := (RX2, TX2, 9)) moX2_isHole jw_ml_X6_211 jw_im_X2_isHole jw_se_X2_isHole hb_pl rfl rfl dX6_hole_39 (w_X2_isHole_z (d - 1) _ pl x1 x2 po (by omega) hW  hb_pl ⟨_, hOp, hFpo⟩ (by omega) (by omega) (by omega) (by omega)) (by omega) (Nat.zero_le _) (Nat.zero_le _) (Nat.le_of_ble_eq_true rfl) (fun r39 V39 h39 => ?_)
          obtain ⟨⟨y39, rfl, hl39, hh39, hI39_0, hI39_1⟩, hE39⟩ := h39
          have hE39 := hE39.symm
          subst hE39
          refine J_iload_n dX6_hole_42 rfl ?_
          refine Jz_icmp_eq (tgt := 58) jEq.rf jEq.rf dX6_hole_43 (by decide) (fun c43 => ?_) (fun c43 => ?_)
          · exact False.elim (by
    rcases (show y39.toInt = 1 ∨ y39.toInt = 0 by omega) with h8 | h8
    · have q := hI39_0.of h8
      rw [hp5] at q
      have q2 := of_decide_eq_false q
      omega
    · have q := hI39_1.of h8
      rw [hp5] at q
      have q2 := of_decide_eq_true q
      omega)
          · refine J_aload_n dX6_hole_46 rfl ?_
            refine J_get jf_X6_42 dX6_hole_47 hO_a0 hF_pl ?_
            refine J_iload_n dX6_hole_50 rfl ?_
            refine J_iload_n dX6_hole_51 rfl ?_
            refine Jw_callV2 (q9 := (RX2, TX2, 9)) moX2_isCorner jw_ml_X6_214 jw_im_X2_isCorner jw_se_X2_isCorner hb_pl rfl rfl dX6_hole_52 (w_X2_isCorner_z (d - 1) _ pl x1 x2 pw ph (by omega) hW  hb_pl ⟨_, hOp, hFpw⟩ ⟨_, hOp, hFph⟩ (by omega) (by omega)) (by omega) (Nat.zero_le _) (Nat.zero_le _) (Nat.le_of_ble_eq_true rfl) (fun r52 V52 h52 => ?_)
            obtain ⟨⟨y52, rfl, hl52, hh52, hP52_0⟩, hE52⟩ := h52
            have hE52 := hE52.symm
            subst hE52
            refine Jz_if_eq (tgt := 61) jEq.rf dX6_hole_55 (by decide) (fun c55 => ?_) (fun c55 => ?_)
            · refine J_aload_n dX6_hole_61 rfl ?_
              refine J_get jf_X6_42 dX6_hole_62 hO_a0 hF_pl ?_
              refine J_iload_n dX6_hole_65 rfl ?_
              refine J_iload_n dX6_hole_66 rfl ?_
              refine Jw_callV2 (q9 := (RX2, TX2, 9)) moX2_turnOver jw_ml_X6_217 jw_im_X2_turnOver jw_se_X2_turnOver hb_pl rfl rfl dX6_hole_67 (w_X2_turnOver_z (d - 1) _ pl x1 x2 po (by omega) hW  hb_pl ⟨_, hOp, hFpo⟩ (by omega) (by omega) (by omega) (by omega)) (by omega) (Nat.zero_le _) (Nat.zero_le _) (Nat.le_of_ble_eq_true rfl) (fun r67 V67 h67 => ?_)
              obtain ⟨h67, hX67_0, hX67_1, ⟨fv67_0, hfv67_0, hfp67_0⟩⟩ := h67
              obtain ⟨hW, hx67, hr67⟩ := h67
              have he := he.trans (hx67.sub (jsub_of rfl))
              have ha0 := ha0.mono hx67.1
              have hb_pl := hb_pl.mono hx67.1
              have hO_a0 := hx67.2 _ _ hO_a0 (jnot_of rfl)
              have hK_a0 := hK_a0.mono hx67.1
              obtain ⟨fs67pl, hOfs67pl, hRfs67pl⟩ := hx67.1.keep hOp
              have hKfs67pl : jokO _ (jFs 0) fs67pl := hW _ _ id hOfs67pl
              cases hr67
              have hFv67_0 := hfv67_0.get hOfs67pl
              have hzf67_0 : jEq fv67_0.toInt (0) := hfp67_0
              clear hfp67_0
              refine Jz_iconst 1 dX6_hole_70 (by decide) (fun y70 he70 => ?_)
              exact J_ret (r := some (.int _)) dX6_hole_71 ⟨rfl, _, rfl, rfl⟩ (⟨⟨hW, he, ⟨_, rfl, (j_rng _).1, (j_rng _).2, (by (try simp only [he70.eq, true_and, and_true]) <;> omega)⟩⟩, hX67_1, hX67_0, ⟨_, hfv67_0, hzf67_0.eq⟩⟩)
            · exact False.elim (by
    rcases (show y39.toInt = 1 ∨ y39.toInt = 0 by omega) with h8 | h8
    · have q := hI39_0.of h8
      rw [hp5] at q
      have q2 := of_decide_eq_false q
      omega
    · have q := hI39_1.of h8
      rw [hp5] at q
      have q2 := of_decide_eq_true q
      omega)
        · exact False.elim (by omega)
set_option maxRecDepth 100000 in
set_option maxHeartbeats 8000000 in
theorem w_X6_board_no {tS : jTS} (d : Nat) (V0 : jH) (a0 : Nat) (x1 : Int32) (x2 : Int32) (hd : 3 ≤ d) (hW : WT V0) (ha0 : jis V0 (.inr 4) a0) (hp0 : ¬ (2 ≤ x1.toInt ∧ x1.toInt ≤ 6 ∧ 2 ≤ x2.toInt ∧ x2.toInt ≤ 6)) : jTot tS mX6_board d [.ref a0, .int x1, .int x2] V0 0 0 (fun r V => (fun r _ => ∃ y : Int32, r = some (.int y) ∧ ((-2147483648) ≤ y.toInt) ∧ (y.toInt ≤ 2147483647) ∧ (y.toInt = -2)) r V ∧ V = V0) := by
  refine jTot.of_J [some (.ref a0), some (.int x1), some (.int x2)] moX6_board (Nat.le_of_ble_eq_true rfl) rfl ?_
  have hrx1 := j_rng x1
  have hrx2 := j_rng x2
  have he : jeff [] V0 V0 := jeff.refl _ _
  refine J_iload_n dX6_board_0 rfl ?_
  refine Jz_iconst 2 dX6_board_1 (by decide) (fun y1 he1 => ?_)
  refine Jz_icmp_lt (tgt := 22) jEq.rf he1 dX6_board_2 (by decide) (fun c2 => ?_) (fun c2 => ?_)
  · refine Jz_bipush (-2) dX6_board_22 (by decide) (fun y22 he22 => ?_)
    exact J_ret (r := some (.int _)) dX6_board_24 ⟨rfl, _, rfl, rfl⟩ (⟨⟨_, rfl, (j_rng _).1, (j_rng _).2, (by (try simp only [he22.eq, true_and, and_true]) <;> omega)⟩, rfl⟩)
  · refine J_iload_n dX6_board_5 rfl ?_
    refine Jz_bipush 6 dX6_board_6 (by decide) (fun y6 he6 => ?_)
    refine Jz_icmp_gt (tgt := 22) jEq.rf he6 dX6_board_8 (by decide) (fun c8 => ?_) (fun c8 => ?_)
    · refine Jz_bipush (-2) dX6_board_22 (by decide) (fun y22 he22 => ?_)
      exact J_ret (r := some (.int _)) dX6_board_24 ⟨rfl, _, rfl, rfl⟩ (⟨⟨_, rfl, (j_rng _).1, (j_rng _).2, (by (try simp only [he22.eq, true_and, and_true]) <;> omega)⟩, rfl⟩)
    · refine J_iload_n dX6_board_11 rfl ?_
      refine Jz_iconst 2 dX6_board_12 (by decide) (fun y12 he12 => ?_)
      refine Jz_icmp_lt (tgt := 22) jEq.rf he12 dX6_board_13 (by decide) (fun c13 => ?_) (fun c13 => ?_)
      · refine Jz_bipush (-2) dX6_board_22 (by decide) (fun y22 he22 => ?_)
        exact J_ret (r := some (.int _)) dX6_board_24 ⟨rfl, _, rfl, rfl⟩ (⟨⟨_, rfl, (j_rng _).1, (j_rng _).2, (by (try simp only [he22.eq, true_and, and_true]) <;> omega)⟩, rfl⟩)
      · refine J_iload_n dX6_board_16 rfl ?_
        refine Jz_bipush 6 dX6_board_17 (by decide) (fun y17 he17 => ?_)
        refine Jz_icmp_le (tgt := 25) jEq.rf he17 dX6_board_19 (by decide) (fun c19 => ?_) (fun c19 => ?_)
        · exact False.elim (by omega)
        · refine Jz_bipush (-2) dX6_board_22 (by decide) (fun y22 he22 => ?_)
          exact J_ret (r := some (.int _)) dX6_board_24 ⟨rfl, _, rfl, rfl⟩ (⟨⟨_, rfl, (j_rng _).1, (j_rng _).2, (by (try simp only [he22.eq, true_and, and_true]) <;> omega)⟩, rfl⟩)
set_option maxRecDepth 100000 in
set_option maxHeartbeats 8000000 in
theorem w_X6_board_yes {tS : jTS} (d : Nat) (V0 : jH) (a0 : Nat) (x1 : Int32) (x2 : Int32) (pl : Nat) (hd : 3 ≤ d) (hW : WT V0) (ha0 : jis V0 (.inr 4) a0) (hr_pl : jfR V0 a0 4 6 pl) (hp0 : 2 ≤ x1.toInt ∧ x1.toInt ≤ 6 ∧ 2 ≤ x2.toInt ∧ x2.toInt ≤ 6) : jTot tS mX6_board d [.ref a0, .int x1, .int x2] V0 0 0 (fun r V => (jPost [.inr 0] V0 (fun r _ => ∃ y : Int32, r = some (.int y) ∧ ((-2147483648) ≤ y.toInt) ∧ (y.toInt ≤ 2147483647) ∧ (y.toInt = 1))) r V ∧ (∃ (w2 h2 : Int32) (op2 : Int64), jfI V pl 0 1 w2 ∧ jfI V pl 0 2 h2 ∧ jfL V pl 0 3 op2 ∧ w2.toInt = x1.toInt ∧ h2.toInt = x2.toInt ∧ ∀ n : Nat, jbt op2 n = true ↔ ∃ x y : Nat, ((x : Int) < x1.toInt ∧ (y : Int) < x2.toInt) ∧ n = 9 + x + 8 * y) ∧ (∃ cn2 : Int32, jfI V pl 0 7 cn2 ∧ cn2.toInt = 0)) := by
  refine jTot.of_J [some (.ref a0), some (.int x1), some (.int x2)] moX6_board (Nat.le_of_ble_eq_true rfl) rfl ?_
  have hrx1 := j_rng x1
  have hrx2 := j_rng x2
  have he : jeff [.inr 0] V0 V0 := jeff.refl _ _
  obtain ⟨fs_a0, hO_a0, hK_a0⟩ := WT_obj hW id ha0
  have hF_pl := hr_pl.get hO_a0
  obtain ⟨w_pl, hFq_pl, b_pl, hbq_pl, hb_pl⟩ := hK_a0.2 6 (.inr (some (.inr 0))) rfl
  cases hF_pl.symm.trans (hFq_pl.trans (congrArg some hbq_pl))
  refine J_iload_n dX6_board_0 rfl ?_
  refine Jz_iconst 2 dX6_board_1 (by decide) (fun y1 he1 => ?_)
  refine Jz_icmp_lt (tgt := 22) jEq.rf he1 dX6_board_2 (by decide) (fun c2 => ?_) (fun c2 => ?_)
  · exact False.elim (by omega)
  · refine J_iload_n dX6_board_5 rfl ?_
    refine Jz_bipush 6 dX6_board_6 (by decide) (fun y6 he6 => ?_)
    refine Jz_icmp_gt (tgt := 22) jEq.rf he6 dX6_board_8 (by decide) (fun c8 => ?_) (fun c8 => ?_)
    · exact False.elim (by omega)
    · refine J_iload_n dX6_board_11 rfl ?_
      refine Jz_iconst 2 dX6_board_12 (by decide) (fun y12 he12 => ?_)
      refine Jz_icmp_lt (tgt := 22) jEq.rf he12 dX6_board_13 (by decide) (fun c13 => ?_) (fun c13 => ?_)
      · exact False.elim (by omega)
      · refine J_iload_n dX6_board_16 rfl ?_
        refine Jz_bipush 6 dX6_board_17 (by decide) (fun y17 he17 => ?_)
        refine Jz_icmp_le (tgt := 25) jEq.rf he17 dX6_board_19 (by decide) (fun c19 => ?_) (fun c19 => ?_)
        · refine J_aload_n dX6_board_25 rfl ?_
          refine J_get jf_X6_42 dX6_board_26 hO_a0 hF_pl ?_
          refine J_iload_n dX6_board_29 rfl ?_
          refine J_iload_n dX6_board_30 rfl ?_
          refine Jw_callV2 (q9 := (RX2, TX2, 9)) moX2_lay jw_ml_X6_202 jw_im_X2_lay jw_se_X2_lay hb_pl rfl rfl dX6_board_31 (w_X2_lay_z (d - 1) _ pl x1 x2 (by omega) hW id hb_pl (by omega) (by omega) (by omega) (by omega)) (by omega) (Nat.zero_le _) (Nat.zero_le _) (Nat.le_of_ble_eq_true rfl) (fun r31 V31 h31 => ?_)
          obtain ⟨h31, hX31_0, ⟨fv31_0, hfv31_0, hfp31_0⟩, ⟨fv31_1, hfv31_1, hfp31_1⟩, ⟨fv31_2, hfv31_2, hfp31_2⟩⟩ := h31
          obtain ⟨hW, hx31, hr31⟩ := h31
          have he := he.trans (hx31.sub (jsub_of rfl))
          have ha0 := ha0.mono hx31.1
          have hb_pl := hb_pl.mono hx31.1
          have hO_a0 := hx31.2 _ _ hO_a0 (jnot_of rfl)
          have hK_a0 := hK_a0.mono hx31.1
          cases hr31
          obtain ⟨fs31o, hO31o, hK31o⟩ := WT_obj hW id hb_pl
          have hFv31_0 := hfv31_0.get hO31o
          have hzf31_0 : jEq fv31_0.toInt ((x1.toInt)) := hfp31_0
          clear hfp31_0
          have hFv31_1 := hfv31_1.get hO31o
          have hzf31_1 : jEq fv31_1.toInt ((x2.toInt)) := hfp31_1
          clear hfp31_1
          have hFv31_2 := hfv31_2.get hO31o
          have hzf31_2 : jEq fv31_2.toInt (0) := hfp31_2
          clear hfp31_2
          obtain ⟨op2, hop2, hbits⟩ := hX31_0
          refine Jz_iconst 1 dX6_board_34 (by decide) (fun y34 he34 => ?_)
          exact J_ret (r := some (.int _)) dX6_board_35 ⟨rfl, _, rfl, rfl⟩ (⟨⟨hW, he, ⟨_, rfl, (j_rng _).1, (j_rng _).2, (by (try simp only [he34.eq, true_and, and_true]) <;> omega)⟩⟩, ⟨_, _, op2, hfv31_0, hfv31_1, hop2, hzf31_0.eq, hzf31_1.eq, hbits⟩, ⟨_, hfv31_2, hzf31_2.eq⟩⟩)
        · exact False.elim (by omega)
set_option maxRecDepth 100000 in
set_option maxHeartbeats 8000000 in
theorem w_X6_walk_zbad {tS : jTS} (d : Nat) (V0 : jH) (a0 : Nat) (x1 : Int32) (hd : 2 ≤ d) (hW : WT V0) (ha0 : jis V0 (.inr 4) a0) (hp0 : ¬ (0 ≤ x1.toInt ∧ x1.toInt ≤ 3)) : jTot tS mX6_walk d [.ref a0, .int x1] V0 0 0 (fun r V => (fun r _ => ∃ y : Int32, r = some (.int y) ∧ ((-2147483648) ≤ y.toInt) ∧ (y.toInt ≤ 2147483647) ∧ (y.toInt = -2)) r V ∧ V = V0) := by
  refine jTot.of_J [some (.ref a0), some (.int x1), none] moX6_walk (Nat.le_of_ble_eq_true rfl) rfl ?_
  have hrx1 := j_rng x1
  have he : jeff [] V0 V0 := jeff.refl _ _
  refine J_iload_n dX6_walk_0 rfl ?_
  refine J_callS1 moX0_isGround jw_ml_X6_46 jw_st_X0_isGround dX6_walk_1 (w_X0_isGround_z (d - 1) _ x1 (by omega)   ) (by omega) (Nat.zero_le _) (Nat.zero_le _) (Nat.le_of_ble_eq_true rfl) (fun r1 V1 h1 => ?_)
  obtain ⟨⟨y1, rfl, hl1, hh1, hP1_0⟩, hE1⟩ := h1
  have hE1 := hE1.symm
  subst hE1
  refine Jz_if_ne (tgt := 10) jEq.rf dX6_walk_4 (by decide) (fun c4 => ?_) (fun c4 => ?_)
  · exact False.elim (by omega)
  · refine Jz_bipush (-2) dX6_walk_7 (by decide) (fun y7 he7 => ?_)
    exact J_ret (r := some (.int _)) dX6_walk_9 ⟨rfl, _, rfl, rfl⟩ (⟨⟨_, rfl, (j_rng _).1, (j_rng _).2, (by (try simp only [he7.eq, true_and, and_true]) <;> omega)⟩, rfl⟩)
set_option maxRecDepth 100000 in
set_option maxHeartbeats 4000000 in
theorem w_X2_init {tS : jTS} (d : Nat) (V0 : jH) (p : Nat → Prop) (q : Nat)  (hd : 3 ≤ d) (hW : WTx (fun a => p a ∨ a = q) V0) (hq : V0 q = some (.inr (0, [.null, .int 0, .int 0, .long 0, .int 0, .int 0, .int 0, .int 0, .int 0]))) (hnp : ¬ p q)   : jTot tS mX2_init d [.ref q] V0 1 36 (fun r V => r = none ∧ WTx p V ∧ jeff [.inr 0] V0 V ∧ jis V (.inr 0) q ∧ (jpl0 V q)) := by
  refine jTot.of_J [some (.ref q)] moX2_init (Nat.le_of_ble_eq_true rfl) rfl ?_
  have he : jeff [.inr 0] V0 V0 := jeff.refl _ _
  refine J_aload_n dX2_init_0 rfl ?_
  refine J_objInit jw_ml_X2_5 jw_oi2 jw_oi3 dX2_init_1 (by omega) (Nat.le_of_ble_eq_true rfl) ?_
  refine J_aload_n dX2_init_4 rfl ?_
  refine J_bipush (v := 36) dX2_init_5 (by decide) ?_
  refine Jc_newa (atype := .int) (t := 12) (B := 36) (x := .inl (fun _ => 0)) jw_ac_int rfl (fun _ h => by cases h) (by decide) dX2_init_7 (by decide) (by decide) (by decide) (fun _ _ => rfl) (fun hN => jok_zI rfl (by decide) (by decide) (fun m h => by cases h <;> rfl) hN) (by decide) (by decide) hW (fun b7 V7 hn7 hb7 hk7 hW hx7 => ?_)
  have hz7 := he.1.none hn7
  have he := he.trans (hx7.sub (jsub_of rfl))
  have hq := hk7 _ _ hq
  refine Jc_putF jf_X2_11 jt_X2_0 rfl (fun _ h => by cases h; rfl) dX2_init_9 hq rfl rfl (Nat.le_of_ble_eq_true rfl) (fun _ h => by cases h) hW (fun V9 hq hW hx9 hB9 => ?_)
  have he := he.trans (hx9.sub (jsub_of rfl))
  have hb7 := hb7.mono hx9.1
  refine J_aload_n dX2_init_12 rfl ?_
  refine J_iconst (v := 2) dX2_init_13 (by decide) ?_
  refine Jc_put jf_X2_15 jt_X2_1 dX2_init_14 hq rfl rfl (Nat.le_of_ble_eq_true rfl) (fun _ h => by cases h) hW (fun V14 hq hW hx14 hB14 => ?_)
  have he := he.trans (hx14.sub (jsub_of rfl))
  have hb7 := hb7.mono hx14.1
  refine J_aload_n dX2_init_17 rfl ?_
  refine J_iconst (v := 2) dX2_init_18 (by decide) ?_
  refine Jc_put jf_X2_19 jt_X2_2 dX2_init_19 hq rfl rfl (Nat.le_of_ble_eq_true rfl) (fun _ h => by cases h) hW (fun V19 hq hW hx19 hB19 => ?_)
  have he := he.trans (hx19.sub (jsub_of rfl))
  have hb7 := hb7.mono hx19.1
  refine J_aload_n dX2_init_22 rfl ?_
  refine J_lconst (v := 0) dX2_init_23 rfl ?_
  refine Jc_put jf_X2_22 jt_X2_3 dX2_init_24 hq rfl rfl (Nat.le_of_ble_eq_true rfl) (fun _ h => by cases h) hW (fun V24 hq hW hx24 hB24 => ?_)
  have he := he.trans (hx24.sub (jsub_of rfl))
  have hb7 := hb7.mono hx24.1
  refine J_aload_n dX2_init_27 rfl ?_
  refine J_iconst (v := 0) dX2_init_28 (by decide) ?_
  refine Jc_put jf_X2_26 jt_X2_4 dX2_init_29 hq rfl rfl (Nat.le_of_ble_eq_true rfl) (fun _ h => by cases h) hW (fun V29 hq hW hx29 hB29 => ?_)
  have he := he.trans (hx29.sub (jsub_of rfl))
  have hb7 := hb7.mono hx29.1
  refine J_aload_n dX2_init_32 rfl ?_
  refine J_iconst (v := 0) dX2_init_33 (by decide) ?_
  refine Jc_put jf_X2_29 jt_X2_5 dX2_init_34 hq rfl rfl (Nat.le_of_ble_eq_true rfl) (fun _ h => by cases h) hW (fun V34 hq hW hx34 hB34 => ?_)
  have he := he.trans (hx34.sub (jsub_of rfl))
  have hb7 := hb7.mono hx34.1
  refine J_aload_n dX2_init_37 rfl ?_
  refine J_iconst (v := 0) dX2_init_38 (by decide) ?_
  refine Jc_put jf_X2_32 jt_X2_6 dX2_init_39 hq rfl rfl (Nat.le_of_ble_eq_true rfl) (fun _ h => by cases h) hW (fun V39 hq hW hx39 hB39 => ?_)
  have he := he.trans (hx39.sub (jsub_of rfl))
  have hb7 := hb7.mono hx39.1
  refine J_aload_n dX2_init_42 rfl ?_
  refine J_iconst (v := 0) dX2_init_43 (by decide) ?_
  refine Jc_put jf_X2_35 jt_X2_7 dX2_init_44 hq rfl rfl (Nat.le_of_ble_eq_true rfl) (fun _ h => by cases h) hW (fun V44 hq hW hx44 hB44 => ?_)
  have he := he.trans (hx44.sub (jsub_of rfl))
  have hb7 := hb7.mono hx44.1
  refine J_aload_n dX2_init_47 rfl ?_
  refine J_iconst (v := 0) dX2_init_48 (by decide) ?_
  refine Jc_put jf_X2_39 jt_X2_8 dX2_init_49 hq rfl rfl (Nat.le_of_ble_eq_true rfl) (fun _ h => by cases h) hW (fun V49 hq hW hx49 hB49 => ?_)
  have he := he.trans (hx49.sub (jsub_of rfl))
  have hb7 := hb7.mono hx49.1
  have hW := hW.fin hq (jokO_cons ⟨_, rfl, hb7⟩ (jokO_cons ⟨_, rfl, (j_rng _).1, (j_rng _).2⟩ (jokO_cons ⟨_, rfl, (j_rng _).1, (j_rng _).2⟩ (jokO_cons ⟨_, rfl⟩ (jokO_cons ⟨_, rfl, (j_rng _).1, (j_rng _).2⟩ (jokO_cons ⟨_, rfl, (j_rng _).1, (j_rng _).2⟩ (jokO_cons ⟨_, rfl, (j_rng _).1, (j_rng _).2⟩ (jokO_cons ⟨_, rfl, by first | decide | assumption | omega, by first | decide | assumption | omega⟩ (jokO_cons ⟨_, rfl, by first | decide | assumption | omega, by first | decide | assumption | omega⟩ (jokO_nil))))))))))
  have hq0 : jis _ (.inr 0) q := ⟨_, hq, rfl⟩
  obtain ⟨fsq, hOq, hFq0⟩ : ∃ fs : List Value, V49 q = some (.inr (0, fs)) ∧ fs[0]? = some (.ref b7) := ⟨_, hq, rfl⟩
  have hKq : jokO V49 (jFs 0) fsq := hW _ _ hnp hOq
  refine J_aload_n dX2_init_52 rfl ?_
  refine J_iconst (v := 2) dX2_init_53 (by decide) ?_
  refine J_iconst (v := 2) dX2_init_54 (by decide) ?_
  refine Jw_callV2 (q9 := (RX2, TX2, 9)) moX2_lay jw_ml_X2_42 jw_im_X2_lay jw_se_X2_lay hq0 rfl rfl dX2_init_55 (w_X2_lay_z (d - 1) _ _ _ _ (by omega) hW hnp hq0 (by decide) (by decide) (by decide) (by decide)) (by omega) (Nat.zero_le _) (Nat.zero_le _) (Nat.le_of_ble_eq_true rfl) (fun r55 V55 h55 => ?_)
  obtain ⟨⟨hW, hx55, hr55⟩, ⟨op55, hop55, hbt55⟩, ⟨w55, hw55, hwe55⟩, ⟨z55, hz55, hze55⟩, ⟨c55, hc55, hce55⟩⟩ := h55
  have he := he.trans (hx55.sub (jsub_of rfl))
  have hq0 := hq0.mono hx55.1
  cases hr55
  · exact J_ret (r := none) dX2_init_58 ⟨rfl, rfl⟩ (⟨rfl, hW, he, hq0, ⟨⟨_, hc55, hce55⟩, _, _, _, hw55, hz55, hop55, hwe55, hze55, hbt55⟩⟩)
set_option maxRecDepth 100000 in
set_option maxHeartbeats 4000000 in
theorem w_X6_init {tS : jTS} (d : Nat) (V0 : jH) (q : Nat)  (hd : 4 ≤ d) (hW : WTx (fun a => False ∨ a = q) V0) (hq : V0 q = some (.inr (4, [.null, .int 0, .null, .null, .null, .null, .null])))   : jTot tS mX6_init d [.ref q] V0 11 676 (fun r V => r = none ∧ WTx (fun _ => False) V ∧ jeff [.inr 4, .inr 1, .inr 0] V0 V ∧ jis V (.inr 4) q ∧ jfI V q 4 1 0 ∧ (jpx V q ∧ jtx V q ∧ jff V q)) := by
  refine jTot.of_J [some (.ref q)] moX6_init (Nat.le_of_ble_eq_true rfl) rfl ?_
  have he : jeff [.inr 4, .inr 1, .inr 0] V0 V0 := jeff.refl _ _
  refine J_aload_n dX6_init_0 rfl ?_
  refine J_objInit jw_ml_X6_1 jw_oi2 jw_oi3 dX6_init_1 (by omega) (Nat.le_of_ble_eq_true rfl) ?_
  refine J_aload_n dX6_init_4 rfl ?_
  refine J_bipush (v := 16) dX6_init_5 (by decide) ?_
  refine Jc_newq (N := 16) jw_cl_X6_9 (by decide) (t := 4) rfl dX6_init_7 (by decide) (by decide) (by decide) (jok_zR rfl (fun m h => by cases h <;> rfl) (by decide)) (by decide) (by decide) hW (fun b7 V7 hn7 hb7 hk7 hW hx7 => ?_)
  have hz7 := he.1.none hn7
  have he := he.trans (hx7.sub (jsub_of rfl))
  have hq := hk7 _ _ hq
  refine Jc_putF jf_X6_11 jt_X6_0 rfl (fun _ h => by cases h; rfl) dX6_init_10 hq rfl rfl (Nat.le_of_ble_eq_true rfl) (fun _ h => by cases h) hW (fun V10 hq hW hx10 hB10 => ?_)
  have he := he.trans (hx10.sub (jsub_of rfl))
  have hb7 := hb7.mono hx10.1
  refine J_aload_n dX6_init_13 rfl ?_
  refine J_iconst (v := 0) dX6_init_14 (by decide) ?_
  refine Jc_put jf_X6_15 jt_X6_1 dX6_init_15 hq rfl rfl (Nat.le_of_ble_eq_true rfl) (fun _ h => by cases h) hW (fun V15 hq hW hx15 hB15 => ?_)
  have he := he.trans (hx15.sub (jsub_of rfl))
  have hb7 := hb7.mono hx15.1
  refine J_aload_n dX6_init_18 rfl ?_
  refine Jc_new jn_X6_9 dX6_init_19 (by decide) (by decide) hW (fun q19 V19 hn19 hQ19 hk19 hW hx19 => ?_)
  have hne19 : q19 ≠ q := fun z => by rw [z, hq] at hn19; cases hn19
  have hz19 := he.1.none hn19
  have he := he.trans (hx19.sub (jsub_of rfl))
  have hb7 := hb7.mono hx19.1
  have hq := hk19 _ _ hq
  refine J_dup dX6_init_22 rfl ?_
  refine J_bipush (v := 120) dX6_init_23 (by decide) ?_
  refine J_callI1 moX3_init rfl rfl jw_ml_X6_19 jw_im_X3_init dX6_init_25 (w_X3_init (d - 1) _ (fun a => False ∨ a = q) _ _ (by omega) hW hQ19 (fun z => z.elim id hne19) ) (by omega) (by decide) (by decide) (Nat.le_of_ble_eq_true rfl) (fun r25 V25 h25 => ?_)
  obtain ⟨rfl, hW, hx25, hj25, hxc25⟩ := h25
  have he := he.trans (hx25.sub (jsub_of rfl))
  have hb7 := hb7.mono hx25.1
  have hq := hx25.2 _ _ hq (jnot_of rfl)
  obtain ⟨s9, x9, y9, z9, -, hjw, -⟩ := hxc25
  rw [show (jmost 120).toInt.toNat = 120 by decide] at hjw
  refine Jc_putF jf_X6_22 jt_X6_2 rfl (fun _ h => by cases h; rfl) dX6_init_28 hq rfl rfl (Nat.le_of_ble_eq_true rfl) (fun _ h => by cases h) hW (fun V28 hq hW hx28 hB28 => ?_)
  have he := he.trans (hx28.sub (jsub_of rfl))
  have hb7 := hb7.mono hx28.1
  have hj25 := hj25.mono hx28.1
  refine J_aload_n dX6_init_31 rfl ?_
  refine J_bipush (v := 60) dX6_init_32 (by decide) ?_
  refine Jc_newa (atype := .int) (t := 7) (B := 60) (x := .inl (fun _ => 0)) jw_ac_int rfl (fun _ h => by cases h) (by decide) dX6_init_34 (by decide) (by decide) (by decide) (fun _ _ => rfl) (fun hN => jok_zI rfl (by decide) (by decide) (fun m h => by cases h <;> rfl) hN) (by decide) (by decide) hW (fun b34 V34 hn34 hb34 hk34 hW hx34 => ?_)
  have hz34 := he.1.none hn34
  have he := he.trans (hx34.sub (jsub_of rfl))
  have hb7 := hb7.mono hx34.1
  have hj25 := hj25.mono hx34.1
  have hq := hk34 _ _ hq
  refine Jc_putF jf_X6_26 jt_X6_3 rfl (fun _ h => by cases h; rfl) dX6_init_36 hq rfl rfl (Nat.le_of_ble_eq_true rfl) (fun _ h => by cases h) hW (fun V36 hq hW hx36 hB36 => ?_)
  have he := he.trans (hx36.sub (jsub_of rfl))
  have hb7 := hb7.mono hx36.1
  have hj25 := hj25.mono hx36.1
  have hb34 := hb34.mono hx36.1
  refine J_aload_n dX6_init_39 rfl ?_
  refine J_bipush (v := 60) dX6_init_40 (by decide) ?_
  obtain ⟨e34, h34e, -⟩ := id hb34
  refine Jc_newa (atype := .int) (t := 7) (B := 60) (x := .inl (fun _ => 0)) jw_ac_int rfl (fun _ h => by cases h) (by decide) dX6_init_42 (by decide) (by decide) (by decide) (fun _ _ => rfl) (fun hN => jok_zI rfl (by decide) (by decide) (fun m h => by cases h <;> rfl) hN) (by decide) (by decide) hW (fun b42 V42 hn42 hb42 hk42 hW hx42 => ?_)
  have hz42 := he.1.none hn42
  have he := he.trans (hx42.sub (jsub_of rfl))
  have hb7 := hb7.mono hx42.1
  have hj25 := hj25.mono hx42.1
  have hb34 := hb34.mono hx42.1
  have hq := hk42 _ _ hq
  have hne9 : b34 ≠ b42 := fun z => by rw [z, hn42] at h34e; cases h34e
  refine Jc_putF jf_X6_30 jt_X6_4 rfl (fun _ h => by cases h; rfl) dX6_init_44 hq rfl rfl (Nat.le_of_ble_eq_true rfl) (fun _ h => by cases h) hW (fun V44 hq hW hx44 hB44 => ?_)
  have he := he.trans (hx44.sub (jsub_of rfl))
  have hb7 := hb7.mono hx44.1
  have hj25 := hj25.mono hx44.1
  have hb34 := hb34.mono hx44.1
  have hb42 := hb42.mono hx44.1
  refine J_aload_n dX6_init_47 rfl ?_
  refine J_iconst (v := 4) dX6_init_48 (by decide) ?_
  refine Jc_newq (N := 4) jw_cl_X6_33 (by decide) (t := 5) rfl dX6_init_49 (by decide) (by decide) (by decide) (jok_zR rfl (fun m h => by cases h <;> rfl) (by decide)) (by decide) (by decide) hW (fun b49 V49 hn49 hb49 hk49 hW hx49 => ?_)
  have hz49 := he.1.none hn49
  have he := he.trans (hx49.sub (jsub_of rfl))
  have hb7 := hb7.mono hx49.1
  have hj25 := hj25.mono hx49.1
  have hb34 := hb34.mono hx49.1
  have hb42 := hb42.mono hx49.1
  have hq := hk49 _ _ hq
  refine Jc_putF jf_X6_35 jt_X6_5 rfl (fun _ h => by cases h; rfl) dX6_init_52 hq rfl rfl (Nat.le_of_ble_eq_true rfl) (fun _ h => by cases h) hW (fun V52 hq hW hx52 hB52 => ?_)
  have he := he.trans (hx52.sub (jsub_of rfl))
  have hb7 := hb7.mono hx52.1
  have hj25 := hj25.mono hx52.1
  have hb34 := hb34.mono hx52.1
  have hb42 := hb42.mono hx52.1
  have hb49 := hb49.mono hx52.1
  refine J_aload_n dX6_init_55 rfl ?_
  refine Jc_new jn_X6_39 dX6_init_56 (by decide) (by decide) hW (fun q56 V56 hn56 hQ56 hk56 hW hx56 => ?_)
  have hne56 : q56 ≠ q := fun z => by rw [z, hq] at hn56; cases hn56
  have hz56 := he.1.none hn56
  have he := he.trans (hx56.sub (jsub_of rfl))
  have hb7 := hb7.mono hx56.1
  have hj25 := hj25.mono hx56.1
  have hb34 := hb34.mono hx56.1
  have hb42 := hb42.mono hx56.1
  have hb49 := hb49.mono hx56.1
  have hq := hk56 _ _ hq
  refine J_dup dX6_init_59 rfl ?_
  refine J_callI0 moX2_init rfl rfl jw_ml_X6_41 jw_im_X2_init dX6_init_60 (w_X2_init (d - 1) _ (fun a => False ∨ a = q) _ (by omega) hW hQ56 (fun z => z.elim id hne56) ) (by omega) (by decide) (by decide) (Nat.le_of_ble_eq_true rfl) (fun r60 V60 h60 => ?_)
  obtain ⟨rfl, hW, hx60, hj60, hxc60⟩ := h60
  have he := he.trans (hx60.sub (jsub_of rfl))
  have hb7 := hb7.mono hx60.1
  have hj25 := hj25.mono hx60.1
  have hb34 := hb34.mono hx60.1
  have hb42 := hb42.mono hx60.1
  have hb49 := hb49.mono hx60.1
  have hq := hx60.2 _ _ hq (jnot_of rfl)
  refine Jc_putF jf_X6_42 jt_X6_6 rfl (fun _ h => by cases h; rfl) dX6_init_63 hq rfl rfl (Nat.le_of_ble_eq_true rfl) (fun _ h => by cases h) hW (fun V63 hq hW hx63 hB63 => ?_)
  have he := he.trans (hx63.sub (jsub_of rfl))
  have hb7 := hb7.mono hx63.1
  have hj25 := hj25.mono hx63.1
  have hb34 := hb34.mono hx63.1
  have hb42 := hb42.mono hx63.1
  have hb49 := hb49.mono hx63.1
  have hj60 := hj60.mono hx63.1
  exact J_ret (r := none) dX6_init_66 ⟨rfl, rfl⟩ (⟨rfl, hW.fin hq (jokO_cons ⟨_, rfl, hb7⟩ (jokO_cons ⟨_, rfl, by first | decide | assumption | omega, by first | decide | assumption | omega⟩ (jokO_cons ⟨_, rfl, hj25⟩ (jokO_cons ⟨_, rfl, hb34⟩ (jokO_cons ⟨_, rfl, hb42⟩ (jokO_cons ⟨_, rfl, hb49⟩ (jokO_cons ⟨_, rfl, hj60⟩ (jokO_nil)))))))), he, ⟨_, hq, rfl⟩, ⟨_, hq, rfl⟩, ⟨⟨_, _, hq, rfl, hxc60.keep hx63 (jnot_of rfl)⟩, ⟨q19, s9, x9, y9, z9, ⟨_, hq, rfl⟩, ((((((((((hjw.keep hx28 (jdis_of rfl)).keep hx34 (jdis_of rfl)).keep hx36 (jdis_of rfl)).keep hx42 (jdis_of rfl)).keep hx44 (jdis_of rfl)).keep hx49 (jdis_of rfl)).keep hx52 (jdis_of rfl)).keep hx56 (jdis_of rfl)).keep hx60 (jdis_of rfl)).keep hx63 (jdis_of rfl))⟩, ⟨b34, b42, ⟨_, hq, rfl⟩, ⟨_, hq, rfl⟩, hne9⟩⟩⟩)
