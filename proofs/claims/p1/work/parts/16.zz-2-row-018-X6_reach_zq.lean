set_option maxRecDepth 100000 in
set_option maxHeartbeats 8000000 in
theorem w_X6_reach_zq {tS : jTS} (d : Nat) (V0 : jH) (a0 : Nat) (x1 : Int32) (x2 : Int32) (fs : List Value) (tl : Nat) (f : Nat → Option Nat) (j : Nat) (t : Nat) (ts : List Value) (rc : Nat) (h : Nat → Int32) (hd : 14 ≤ d) (hW : WT V0) (ha0 : jis V0 (.inr 4) a0) (hx : V0 a0 = some (.inr (4, fs))) (h5 : fs[5]? = some (.ref tl)) (htl : V0 tl = some (.inl (5, 4, .inr (.inr (.inr (.inr f)))))) (hg : x1 = nI j) (hj : j < 4) (hb1 : ¬ x1 < 0) (hb2 : ¬ Int32.ofNat 4 ≤ x1) (hb3 : ¬ x2 < 1) (hb4 : x2 ≤ 20) (hf : f j = some t) (ht : V0 t = some (.inr (2, ts))) (h9 : ts[9]? = some (.ref rc)) (hrc : V0 rc = some (.inl (9, 7, .inl h))) (hre : ∀ n : Nat, n < 7 → (h n).toInt = -1 ∨ (h n).toInt = ((jre (j : Int) n : Nat) : Int)) (hp0 : 1 ≤ x2.toInt) (hp1 : x2.toInt ≤ 20) (hp2 : x1.toInt = 2 ∨ 6 < x2.toInt ∨ 10000 < jpw (jdir x1.toInt) x2.toInt.toNat ∨ ¬ (h x2.toInt.toNat).toInt = -1) : jTot tS mX6_reach d [.ref a0, .int x1, .int x2] V0 0 0 (fun r V => (fun r _ => ∃ y : Int32, r = some (.int y) ∧ ((-2147483648) ≤ y.toInt) ∧ (y.toInt ≤ 2147483647) ∧ (((x1.toInt = 2 ∨ 6 < x2.toInt) ∧ y.toInt = -2) ∨ (¬ x1.toInt = 2 ∧ x2.toInt ≤ 6 ∧ ((10000 < jpw (jdir x1.toInt) x2.toInt.toNat ∧ y.toInt = -5) ∨ (jpw (jdir x1.toInt) x2.toInt.toNat ≤ 10000 ∧ y.toInt = ((jre (j : Int) x2.toInt.toNat : Nat) : Int)))))) r V ∧ V = V0) := by
  refine jTot.of_J [some (.ref a0), some (.int x1), some (.int x2), none, none, none] moX6_reach (Nat.le_of_ble_eq_true rfl) rfl ?_
  have hrx1 := j_rng x1
  have hrx2 := j_rng x2
  have he : jeff [] V0 V0 := jeff.refl _ _
  have hKx : jokO V0 (jFs 4) fs := hW _ _ id hx
  have htlk : jis V0 (.inl 5) tl := ⟨_, htl, rfl⟩
  have hN4 : (4 : Nat) < 2 ^ 31 := by decide
  have hvt : ∀ (j b : Nat), j < 4 → f j = some b → jis V0 (.inr 2) b := by
    obtain ⟨n9, f9, h91, h92, h93, h94⟩ := WT_arrR hW id rfl htlk
    cases htl.symm.trans h91
    exact h94
  have hjj : ∀ j2 : Nat, x1 = nI j2 → j2 < 4 → j2 = j := fun j2 h1 h2 => by
    have h3 : x1.toNatClampNeg = j2 := by rw [h1]; exact nI_clamp (by omega)
    have h4 : x1.toNatClampNeg = j := by rw [hg]; exact nI_clamp (by omega)
    omega
  clear hN4
  have hbt : jis V0 (.inr 2) t := ⟨_, ht, rfl⟩
  have hKt : jokO V0 (jFs 2) ts := hW _ _ id ht
  have hbrc : jis V0 (.inl 9) rc := ⟨_, hrc, rfl⟩
  obtain ⟨hNrc, hvrc⟩ := WT_rngI (r := (-2147483648, 2147483647)) hW id rfl hrc
  clear hNrc
  have ho : ∀ j2, x1 = nI j2 → j2 < 4 → ∃ t2, f j2 = some t2 := fun j2 h1 h2 => ⟨t, by rw [hjj j2 h1 h2]; exact hf⟩
  refine J_aload_n dX6_reach_0 rfl ?_
  refine J_iload_n dX6_reach_1 rfl ?_
  refine J_iload_n dX6_reach_2 rfl ?_
  refine Jz_iconst 1 dX6_reach_3 (by decide) (fun y3 he3 => ?_)
  refine Jw_callV3 (q9 := (RX6, TX6, 7)) moX6_tallyFor jw_ml_X6_149 jw_im_X6_tallyFor jw_se_X6_tallyFor ha0 rfl rfl dX6_reach_4 (w_X6_tallyFor_old (d - 1) _ _ _ _ _ fs tl f (by omega) hW ha0 hx h5 htl ho hb1 hb2 (by rw [(jI_inj.mp (he3.eq.trans rfl) : y3 = 1)]; exact hb3) hb4) (by omega) (Nat.zero_le _) (Nat.zero_le _) (Nat.le_of_ble_eq_true rfl) (fun r4 V4 h4 => ?_)
  obtain ⟨hr4, hE4⟩ := h4
  have hE4 := hE4.symm
  subst hE4
  obtain ⟨j2, t2, hj2, hg2, ht2, rfl⟩ := hr4
  · have hj3 := (hjj j2 hg2 hj2).symm
    subst hj3
    have ht3 := Option.some.inj (hf.symm.trans ht2)
    subst ht3
    refine J_astore_n dX6_reach_7 rfl (by decide) ?_
    refine J_aload_n dX6_reach_8 rfl ?_
    refine J_ifnull dX6_reach_9 ?_
    refine J_iload_n dX6_reach_12 rfl ?_
    refine Jz_iconst 2 dX6_reach_13 (by decide) (fun y13 he13 => ?_)
    refine Jz_icmp_eq (tgt := 23) jEq.rf he13 dX6_reach_14 (by decide) (fun c14 => ?_) (fun c14 => ?_)
    · refine Jz_bipush (-2) dX6_reach_23 (by decide) (fun y23 he23 => ?_)
      exact J_ret (r := some (.int _)) dX6_reach_25 ⟨rfl, _, rfl, rfl⟩ (⟨⟨_, rfl, (j_rng _).1, (j_rng _).2, (Or.inl ⟨by omega, he23.eq⟩)⟩, rfl⟩)
    · refine J_iload_n dX6_reach_17 rfl ?_
      refine Jz_bipush 6 dX6_reach_18 (by decide) (fun y18 he18 => ?_)
      refine Jz_icmp_le (tgt := 26) jEq.rf he18 dX6_reach_20 (by decide) (fun c20 => ?_) (fun c20 => ?_)
      · refine Jz_iconst 1 dX6_reach_26 (by decide) (fun y26 he26 => ?_)
        refine J_istore dX6_reach_27 rfl (by decide) ?_
        refine Jz_iconst 0 dX6_reach_29 (by decide) (fun y29 he29 => ?_)
        refine J_istore dX6_reach_30 rfl (by decide) ?_
        have L32 : ∀ (N : Nat) (i4n32 : Int32) (i5n32 : Int32), (0 ≤ i5n32.toInt ∧ i5n32.toInt ≤ x2.toInt) → (i4n32.toInt = jpw (jdir x1.toInt) i5n32.toInt.toNat) → (300 - i5n32.toInt).toNat < N → J tS mX6_reach d 32 [some (.ref a0), some (.int x1), some (.int x2), some (.ref t), some (.int i4n32), some (.int i5n32)] [] V0 0 0 (fun r V => (fun r _ => ∃ y : Int32, r = some (.int y) ∧ ((-2147483648) ≤ y.toInt) ∧ (y.toInt ≤ 2147483647) ∧ (((x1.toInt = 2 ∨ 6 < x2.toInt) ∧ y.toInt = -2) ∨ (¬ x1.toInt = 2 ∧ x2.toInt ≤ 6 ∧ ((10000 < jpw (jdir x1.toInt) x2.toInt.toNat ∧ y.toInt = -5) ∨ (jpw (jdir x1.toInt) x2.toInt.toNat ≤ 10000 ∧ y.toInt = ((jre (j : Int) x2.toInt.toNat : Nat) : Int)))))) r V ∧ V = V0) := by
          intro N
          induction N with
          | zero => intro i4n32 i5n32  hi5 hpw hm; exact absurd hm (Nat.not_lt_zero _)
          | succ N ih =>
            intro i4n32 i5n32  hi5 hpw hm
            have ih32 := ih
            have hri5 := j_rng i5n32
            refine J_iload dX6_reach_32 rfl ?_
            refine J_iload_n dX6_reach_34 rfl ?_
            refine Jz_icmp_ge (tgt := 53) jEq.rf jEq.rf dX6_reach_35 (by decide) (fun c35 => ?_) (fun c35 => ?_)
            · have hall : i4n32.toInt = jpw (jdir x1.toInt) x2.toInt.toNat := by rw [hpw, show i5n32.toInt.toNat = x2.toInt.toNat by omega]
              refine J_iload dX6_reach_53 rfl ?_
              refine Jz_sipush 10000 dX6_reach_55 (by decide) (fun y55 he55 => ?_)
              refine Jz_icmp_le (tgt := 64) jEq.rf he55 dX6_reach_58 (by decide) (fun c58 => ?_) (fun c58 => ?_)
              · refine J_aload_n dX6_reach_64 rfl ?_
                refine J_get jf_X6_190 dX6_reach_65 ht h9 ?_
                refine J_iload_n dX6_reach_68 rfl ?_
                refine J_callS2 moX6_cell jw_ml_X6_110 jw_st_X6_cell dX6_reach_69 (w_X6_cell_x (d - 1) _ _ _ hrc (by decide) rfl (by omega) (by omega)) (by omega) (Nat.zero_le _) (Nat.zero_le _) (Nat.le_of_ble_eq_true rfl) (fun r69 V69 h69 => ?_)
                obtain ⟨⟨y69, rfl, hf69⟩, hE69⟩ := h69
                have hE69 := hE69.symm
                subst hE69
                · refine Jz_iconst (-1) dX6_reach_72 (by decide) (fun y72 he72 => ?_)
                  refine Jz_icmp_ne (tgt := 102) jEq.rf he72 dX6_reach_73 (by decide) (fun c73 => ?_) (fun c73 => ?_)
                  · refine J_aload_n dX6_reach_102 rfl ?_
                    refine J_get jf_X6_190 dX6_reach_103 ht h9 ?_
                    refine J_iload_n dX6_reach_106 rfl ?_
                    refine J_callS2 moX6_cell jw_ml_X6_110 jw_st_X6_cell dX6_reach_107 (w_X6_cell_x (d - 1) _ _ _ hrc (by decide) rfl (by omega) (by omega)) (by omega) (Nat.zero_le _) (Nat.zero_le _) (Nat.le_of_ble_eq_true rfl) (fun r107 V107 h107 => ?_)
                    obtain ⟨⟨y107, rfl, hf107⟩, hE107⟩ := h107
                    have hE107 := hE107.symm
                    subst hE107
                    · exact J_ret (r := some (.int _)) dX6_reach_110 ⟨rfl, _, rfl, rfl⟩ (⟨⟨_, rfl, (j_rng _).1, (j_rng _).2, (Or.inr ⟨by omega, by omega, Or.inr ⟨by omega, by rw [← hf107]; exact (hre x2.toInt.toNat (by omega)).elim (fun q => absurd q (by rw [hf69]; omega)) id⟩⟩)⟩, rfl⟩)
                  · exact False.elim (by rw [hf69] at hp2; omega)
              · refine Jz_bipush (-5) dX6_reach_61 (by decide) (fun y61 he61 => ?_)
                exact J_ret (r := some (.int _)) dX6_reach_63 ⟨rfl, _, rfl, rfl⟩ (⟨⟨_, rfl, (j_rng _).1, (j_rng _).2, (Or.inr ⟨by omega, by omega, Or.inl ⟨by omega, he61.eq⟩⟩)⟩, rfl⟩)
            · refine J_iload dX6_reach_38 rfl ?_
              refine J_iload_n dX6_reach_40 rfl ?_
              refine J_callS1 moX0_directions jw_ml_X6_187 jw_st_X0_directions dX6_reach_41 (w_X0_directions_z (d - 1) _ x1 (by omega)   ) (by omega) (Nat.zero_le _) (Nat.zero_le _) (Nat.le_of_ble_eq_true rfl) (fun r41 V41 h41 => ?_)
              obtain ⟨⟨y41, rfl, hl41, hh41, hP41_0⟩, hE41⟩ := h41
              have hE41 := hE41.symm
              subst hE41
              have hz41 : jEq y41.toInt (jdir (x1.toInt)) := hP41_0
              simp only [hP41_0] at hl41 hh41
              clear hP41_0
              have hjd := jdir_cases x1.toInt
              have hq1 : i4n32.toInt * jdir x1.toInt = jpw (jdir x1.toInt) (i5n32.toInt.toNat + 1) := by rw [hpw, Int.mul_comm]; rfl
              have hq2 := jpw_le6 (d := jdir x1.toInt) (by omega) (by omega) (n := i5n32.toInt.toNat + 1) (by omega)
              have hq3 := jpw_pos (d := jdir x1.toInt) (by omega) (i5n32.toInt.toNat + 1)
              refine Jz_imul jEq.rf hz41 dX6_reach_44 (by omega) (by omega) (fun y44 he44 => ?_)
              refine J_istore dX6_reach_45 rfl (by decide) ?_
              refine Jz_iinc 1 dX6_reach_47 rfl rfl (by decide) jEq.rf (by decide) (by omega) (by omega) (fun y47 he47 => ?_)
              refine J_goto (tgt := 32) dX6_reach_50 (by decide) ?_
              refine J.mask [true, true, true, true, true, true] ?_
              exact ih32  y44 y47  (by (try simp only [he44.eq, he47.eq, true_and, and_true]) <;> omega) (by rw [he44.eq, Int.mul_comm, hpw, he47.eq, show (i5n32.toInt + 1).toNat = i5n32.toInt.toNat + 1 by omega]; rfl) (by (try simp only [he44.eq, he47.eq, true_and, and_true]) <;> omega)
        refine J.mask [true, true, true, true, true, true] ?_
        exact L32 _  y26 y29    (by (try simp only [he26.eq, he29.eq, true_and, and_true]) <;> omega) (by rw [he26.eq, he29.eq]; rfl) (Nat.lt_succ_self _)
      · refine Jz_bipush (-2) dX6_reach_23 (by decide) (fun y23 he23 => ?_)
        exact J_ret (r := some (.int _)) dX6_reach_25 ⟨rfl, _, rfl, rfl⟩ (⟨⟨_, rfl, (j_rng _).1, (j_rng _).2, (Or.inl ⟨by omega, he23.eq⟩)⟩, rfl⟩)
