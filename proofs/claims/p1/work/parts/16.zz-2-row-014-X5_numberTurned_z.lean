set_option maxRecDepth 100000 in
set_option maxHeartbeats 8000000 in
theorem w_X5_numberTurned_z {tS : jTS} (d : Nat) (V0 : jH) (a0 : Nat) (x1 : Int32) (x2 : Int32) (g : Int32) (sn : Int32) (b : Int32) (dg : Nat) (DG : Nat → Int32) (hd : 2 ≤ d) (hW : WT V0) (ha0 : jis V0 (.inr 3) a0) (hf_g : jfI V0 a0 3 0 g) (hf_sn : jfI V0 a0 3 1 sn) (hf_b : jfI V0 a0 3 2 b) (hr_dg : jfR V0 a0 3 5 dg) (ha_DG : V0 dg = some (.inl (11, 6, .inl DG))) (hp0 : 0 ≤ g.toInt) (hp1 : g.toInt ≤ 3) (hp2 : b.toInt = jdir g.toInt) (hp3 : 1 ≤ sn.toInt) (hp4 : sn.toInt ≤ 6) (hp5 : 0 ≤ x1.toInt) (hp6 : x1.toInt < sn.toInt) (hp7 : 0 ≤ x2.toInt) (hp8 : x2.toInt < jtur g.toInt) (hp9 : ∀ i : Nat, (i : Int) < sn.toInt → 0 ≤ (DG i).toInt ∧ (DG i).toInt < jdir g.toInt) : jTot tS mX5_numberTurned d [.ref a0, .int x1, .int x2] V0 0 0 (fun r V => (fun r _ => ∃ y : Int32, r = some (.int y) ∧ ((-2147483648) ≤ y.toInt) ∧ (y.toInt ≤ 2147483647) ∧ (y.toInt = ((jnm (jdir g.toInt).toNat (jTp g.toInt x2.toInt x1.toInt (fun q => (DG q).toInt)) sn.toInt.toNat : Nat) : Int))) r V ∧ V = V0) := by
  refine jTot.of_J [some (.ref a0), some (.int x1), some (.int x2), none, none, none] moX5_numberTurned (Nat.le_of_ble_eq_true rfl) rfl ?_
  have hrx1 := j_rng x1
  have hrx2 := j_rng x2
  have he : jeff [] V0 V0 := jeff.refl _ _
  obtain ⟨fs_a0, hO_a0, hK_a0⟩ := WT_obj hW id ha0
  have hF_g := hf_g.get hO_a0
  have hrg : (-2147483648) ≤ g.toInt ∧ g.toInt ≤ 2147483647 := jok_rngI hK_a0 rfl hF_g
  have hF_sn := hf_sn.get hO_a0
  have hrsn : 0 ≤ sn.toInt ∧ sn.toInt ≤ 6 := jok_rngI hK_a0 rfl hF_sn
  have hF_b := hf_b.get hO_a0
  have hrb : (-2147483648) ≤ b.toInt ∧ b.toInt ≤ 2147483647 := jok_rngI hK_a0 rfl hF_b
  have hF_dg := hr_dg.get hO_a0
  obtain ⟨w_dg, hFq_dg, b_dg, hbq_dg, hb_dg⟩ := hK_a0.2 5 (.inr (some (.inl 11))) rfl
  cases hF_dg.symm.trans (hFq_dg.trans (congrArg some hbq_dg))
  obtain ⟨hN_DG, hv_DG⟩ := WT_rngI (r := ((-2147483648), 2147483647)) hW id rfl ha_DG
  clear hN_DG
  have hjb : 3 ≤ jdir g.toInt ∧ jdir g.toInt ≤ 6 := by have q := jdir_cases g.toInt; omega
  have htt := jTp_rng (T := (fun q => (DG q).toInt)) (g := g.toInt) (n := sn.toInt) (t := x2.toInt) (k := x1.toInt) ⟨hp0, hp1⟩ ⟨hp7, hp8⟩ hp9
  have hDn : (((jdir g.toInt).toNat : Nat) : Int) = jdir g.toInt := Int.toNat_of_nonneg (by omega)
  refine Jz_iconst 0 dX5_numberTurned_0 (by decide) (fun y0 he0 => ?_)
  refine J_istore_n dX5_numberTurned_1 rfl (by decide) ?_
  refine Jz_iconst 0 dX5_numberTurned_2 (by decide) (fun y2 he2 => ?_)
  refine J_istore dX5_numberTurned_3 rfl (by decide) ?_
  have L5 : ∀ (N : Nat) (i3n5 : Int32) (i4n5 : Int32), (0 ≤ i4n5.toInt ∧ i4n5.toInt ≤ sn.toInt) → (i3n5.toInt = ((jnm (jdir g.toInt).toNat (jTp g.toInt x2.toInt x1.toInt (fun q => (DG q).toInt)) i4n5.toInt.toNat : Nat) : Int)) → (300 - i4n5.toInt).toNat < N → J tS mX5_numberTurned d 5 [some (.ref a0), some (.int x1), some (.int x2), some (.int i3n5), some (.int i4n5), none] [] V0 0 0 (fun r V => (fun r _ => ∃ y : Int32, r = some (.int y) ∧ ((-2147483648) ≤ y.toInt) ∧ (y.toInt ≤ 2147483647) ∧ (y.toInt = ((jnm (jdir g.toInt).toNat (jTp g.toInt x2.toInt x1.toInt (fun q => (DG q).toInt)) sn.toInt.toNat : Nat) : Int))) r V ∧ V = V0) := by
    intro N
    induction N with
    | zero => intro i3n5 i4n5  hi4 hnm hm; exact absurd hm (Nat.not_lt_zero _)
    | succ N ih =>
      intro i3n5 i4n5  hi4 hnm hm
      have ih5 := ih
      have hri4 := j_rng i4n5
      refine J_iload dX5_numberTurned_5 rfl ?_
      refine J_aload_n dX5_numberTurned_7 rfl ?_
      refine J_get jf_X5_31 dX5_numberTurned_8 hO_a0 hF_sn ?_
      refine Jz_icmp_ge (tgt := 60) jEq.rf jEq.rf dX5_numberTurned_11 (by decide) (fun c11 => ?_) (fun c11 => ?_)
      · refine J_iload_n dX5_numberTurned_60 rfl ?_
        exact J_ret (r := some (.int _)) dX5_numberTurned_61 ⟨rfl, _, rfl, rfl⟩ (⟨⟨_, rfl, (j_rng _).1, (j_rng _).2, (by rw [hnm, show i4n5.toInt.toNat = sn.toInt.toNat by omega])⟩, rfl⟩)
      · refine J_aload_n dX5_numberTurned_14 rfl ?_
        refine J_get jf_X5_9 dX5_numberTurned_15 hO_a0 hF_dg ?_
        refine J_iload dX5_numberTurned_18 rfl ?_
        refine J_callSN2 moX6_cell (host := "WalkGrounds") (List.mem_of_getElem? (i := 7) rfl) jw_st_X6_cell dX5_numberTurned_20 (w_X6_cell_x (d - 1) _ dg i4n5 ha_DG (WT_rngI (r := (-2147483648, 2147483647)) hW id rfl ha_DG).1 rfl (by omega) (by omega)) (by omega) (Nat.zero_le _) (Nat.zero_le _) (Nat.le_of_ble_eq_true rfl) (fun r20 V20 h20 => ?_)
        obtain ⟨⟨y20, rfl, hf20⟩, hE20⟩ := h20
        have hE20 := hE20.symm
        subst hE20
        have hz20 : jEq y20.toInt (DG (i4n5.toInt).toNat).toInt := by rw [← hf20]; rfl
        clear hf20
        · refine J_istore dX5_numberTurned_23 rfl (by decide) ?_
          have hvt := htt i4n5.toInt.toNat (by omega)
          have hsd := hp9 i4n5.toInt.toNat (by omega)
          have hlt := jnm_lt (D := (jdir g.toInt).toNat) (T := (jTp g.toInt x2.toInt x1.toInt (fun q => (DG q).toInt))) i4n5.toInt.toNat (fun i hi => by have q := htt i (by omega); omega)
          have hp5 := jpow5 (D := (jdir g.toInt).toNat) (k := i4n5.toInt.toNat) (by omega) (by omega)
          have hn7 : 0 ≤ i3n5.toInt ∧ i3n5.toInt ≤ 7776 := by omega
          have hq9 : 0 ≤ i3n5.toInt * b.toInt ∧ i3n5.toInt * b.toInt ≤ 46656 := ⟨Int.mul_nonneg (by omega) (by omega), Int.le_trans (Int.mul_le_mul hn7.2 (show b.toInt ≤ 6 by omega) (by omega) (by decide)) (by decide)⟩
          refine J_iload_n dX5_numberTurned_25 rfl ?_
          refine J_aload_n dX5_numberTurned_26 rfl ?_
          refine J_get jf_X5_40 dX5_numberTurned_27 hO_a0 hF_b ?_
          refine Jz_imul jEq.rf jEq.rf dX5_numberTurned_30 (by omega) (by omega) (fun y30 he30 => ?_)
          refine J_iload dX5_numberTurned_31 rfl ?_
          refine J_iload_n dX5_numberTurned_33 rfl ?_
          have K52 : ∀ (t0k52 : Int32), (t0k52.toInt = jTp g.toInt x2.toInt x1.toInt (fun q => (DG q).toInt) i4n5.toInt.toNat) → J tS mX5_numberTurned d 52 [some (.ref a0), some (.int x1), some (.int x2), some (.int i3n5), some (.int i4n5), some (.int y20)] [.int t0k52, .int y30] V0 0 0 (fun r V => (fun r _ => ∃ y : Int32, r = some (.int y) ∧ ((-2147483648) ≤ y.toInt) ∧ (y.toInt ≤ 2147483647) ∧ (y.toInt = ((jnm (jdir g.toInt).toNat (jTp g.toInt x2.toInt x1.toInt (fun q => (DG q).toInt)) sn.toInt.toNat : Nat) : Int))) r V ∧ V = V0) := by
            intro  t0k52     hk52_0
            refine Jz_iadd he30 jEq.rf dX5_numberTurned_52 (by omega) (by omega) (fun y52 he52 => ?_)
            refine J_istore_n dX5_numberTurned_53 rfl (by decide) ?_
            refine Jz_iinc 1 dX5_numberTurned_54 rfl rfl (by decide) jEq.rf (by decide) (by omega) (by omega) (fun y54 he54 => ?_)
            refine J_goto (tgt := 5) dX5_numberTurned_57 (by decide) ?_
            refine J.mask [true, true, true, true, true, false] ?_
            exact ih5  y52 y54  (by (try simp only [he52.eq, he54.eq, true_and, and_true]) <;> omega) (by rw [he52.eq, he54.eq, show (i4n5.toInt + 1).toNat = i4n5.toInt.toNat + 1 by omega, hk52_0, hnm, hp2]; exact jnm_next hDn hvt.1) (by (try simp only [he52.eq, he54.eq, true_and, and_true]) <;> omega)
          refine Jz_icmp_ge (tgt := 42) jEq.rf jEq.rf dX5_numberTurned_34 (by decide) (fun c34 => ?_) (fun c34 => ?_)
          · refine J_aload_n dX5_numberTurned_42 rfl ?_
            refine J_get jf_X5_19 dX5_numberTurned_43 hO_a0 hF_g ?_
            refine J_iload_n dX5_numberTurned_46 rfl ?_
            refine J_iload dX5_numberTurned_47 rfl ?_
            refine J_callS3 moX0_turned jw_ml_X5_87 jw_st_X0_turned dX5_numberTurned_49 (w_X0_turned_z (d - 1) _ g x2 y20 (by omega)   (by omega) (by omega) (by omega) (by omega) (by (try simp only [hz20.eq, true_and, and_true]) <;> omega) (by (try simp only [hz20.eq, true_and, and_true]) <;> omega)) (by omega) (Nat.zero_le _) (Nat.zero_le _) (Nat.le_of_ble_eq_true rfl) (fun r49 V49 h49 => ?_)
            obtain ⟨⟨y49, rfl, hl49, hh49, hP49_0⟩, hE49⟩ := h49
            have hE49 := hE49.symm
            subst hE49
            clear hl49 hh49
            try simp only [hz20.eq] at hP49_0
            have hz49 : jEq y49.toInt (jtn (g.toInt) (x2.toInt) ((DG (i4n5.toInt).toNat).toInt)) := hP49_0
            clear hP49_0
            exact K52  y49  (by unfold jTp; rw [if_neg (by omega)]; exact hz49.eq)
          · refine J_iload dX5_numberTurned_37 rfl ?_
            refine J_goto (tgt := 52) dX5_numberTurned_39 (by decide) ?_
            exact K52  y20  (by unfold jTp; rw [if_pos (by omega)]; exact hz20.eq)
  refine J.mask [true, true, true, true, true, false] ?_
  exact L5 _  y0 y2    (by (try simp only [he0.eq, he2.eq, true_and, and_true]) <;> omega) (by rw [he0.eq, he2.eq]; rfl) (Nat.lt_succ_self _)
