set_option maxRecDepth 100000 in
set_option maxHeartbeats 8000000 in
theorem w_X1_isBelow_s {tS : jTS} (d : Nat) (V0 : jH) {ln : Nat} (a0 : Nat) (x1 : Int32) (x2 : Int32) (a3 : Nat) (M : Int32) (g : Int32) (n : Int32) (s : Nat) (xx : Nat) (yy : Nat) (zz : Nat) (S : Nat → Int32) (X : Nat → Int32) (Y : Nat → Int32) (Z : Nat → Int32) (B : Nat → Int32) (hd : 3 ≤ d) (hW : WT V0) (ha0 : jis V0 (.inr 1) a0) (hl2 : 0 ≤ x2.toInt) (hh2 : x2.toInt ≤ 1) (ha3 : jis V0 (.inl 6) a3) (hf_M : jfI V0 a0 1 0 M) (hf_g : jfI V0 a0 1 5 g) (hf_n : jfI V0 a0 1 6 n) (hr_s : jfR V0 a0 1 1 s) (hr_xx : jfR V0 a0 1 2 xx) (hr_yy : jfR V0 a0 1 3 yy) (hr_zz : jfR V0 a0 1 4 zz) (ha_S : V0 s = some (.inl (6, ln, .inl S))) (ha_X : V0 xx = some (.inl (34, ln + 1, .inl X))) (ha_Y : V0 yy = some (.inl (35, ln + 1, .inl Y))) (ha_Z : V0 zz = some (.inl (36, ln + 1, .inl Z))) (ha_B : V0 a3 = some (.inl (6, ln, .inl B))) (hp0 : M.toInt = (ln : Int)) (hp1 : (ln : Int) ≤ 120) (hp2 : n.toInt ≤ M.toInt) (hp3 : 0 ≤ g.toInt) (hp4 : g.toInt ≤ 3) (hp5 : 0 ≤ x1.toInt) (hp6 : x1.toInt < jtur g.toInt) (hp7 : ∀ j : Nat, (j : Int) < n.toInt → 0 ≤ (S j).toInt ∧ (S j).toInt < jdir g.toInt) (hp8 : n.toInt ≤ 60) (hp9 : ∀ j : Nat, (j : Int) < n.toInt → 0 ≤ (B j).toInt ∧ (B j).toInt < jdir g.toInt) : jTot tS mX1_isBelow d [.ref a0, .int x1, .int x2, .ref a3] V0 0 0 (fun r V => (fun r _ => ∃ y : Int32, r = some (.int y) ∧ (0 ≤ y.toInt) ∧ (y.toInt ≤ 1) ∧ ((y.toInt = 1 ∧ jlx n.toInt.toNat (jim g.toInt (fun q => (S q).toInt) n.toInt.toNat x1.toInt (decide (x2.toInt = 1))) (fun q => (B q).toInt)) ∨ (y.toInt = 0 ∧ ¬ jlx n.toInt.toNat (jim g.toInt (fun q => (S q).toInt) n.toInt.toNat x1.toInt (decide (x2.toInt = 1))) (fun q => (B q).toInt)))) r V ∧ V = V0) := by
  refine jTot.of_J [some (.ref a0), some (.int x1), some (.int x2), some (.ref a3), none, none] moX1_isBelow (Nat.le_of_ble_eq_true rfl) rfl ?_
  have hrx1 := j_rng x1
  have he : jeff [] V0 V0 := jeff.refl _ _
  obtain ⟨fs_a0, hO_a0, hK_a0⟩ := WT_obj hW id ha0
  have hF_M := hf_M.get hO_a0
  have hrM : 0 ≤ M.toInt ∧ M.toInt ≤ 120 := jok_rngI hK_a0 rfl hF_M
  have hF_g := hf_g.get hO_a0
  have hrg : (-2147483648) ≤ g.toInt ∧ g.toInt ≤ 2147483647 := jok_rngI hK_a0 rfl hF_g
  have hF_n := hf_n.get hO_a0
  have hrn : 0 ≤ n.toInt ∧ n.toInt ≤ 120 := jok_rngI hK_a0 rfl hF_n
  have hF_s := hr_s.get hO_a0
  obtain ⟨w_s, hFq_s, b_s, hbq_s, hb_s⟩ := hK_a0.2 1 (.inr (some (.inl 6))) rfl
  cases hF_s.symm.trans (hFq_s.trans (congrArg some hbq_s))
  have hF_xx := hr_xx.get hO_a0
  obtain ⟨w_xx, hFq_xx, b_xx, hbq_xx, hb_xx⟩ := hK_a0.2 2 (.inr (some (.inl 34))) rfl
  cases hF_xx.symm.trans (hFq_xx.trans (congrArg some hbq_xx))
  have hF_yy := hr_yy.get hO_a0
  obtain ⟨w_yy, hFq_yy, b_yy, hbq_yy, hb_yy⟩ := hK_a0.2 3 (.inr (some (.inl 35))) rfl
  cases hF_yy.symm.trans (hFq_yy.trans (congrArg some hbq_yy))
  have hF_zz := hr_zz.get hO_a0
  obtain ⟨w_zz, hFq_zz, b_zz, hbq_zz, hb_zz⟩ := hK_a0.2 4 (.inr (some (.inl 36))) rfl
  cases hF_zz.symm.trans (hFq_zz.trans (congrArg some hbq_zz))
  obtain ⟨hN_S, hv_S⟩ := WT_rngI (r := ((-2147483648), 2147483647)) hW id rfl ha_S
  clear hN_S
  obtain ⟨hN_X, hv_X⟩ := WT_rngI (r := ((-2147483648), 2147483647)) hW id rfl ha_X
  clear hN_X
  obtain ⟨hN_Y, hv_Y⟩ := WT_rngI (r := ((-2147483648), 2147483647)) hW id rfl ha_Y
  clear hN_Y
  obtain ⟨hN_Z, hv_Z⟩ := WT_rngI (r := ((-2147483648), 2147483647)) hW id rfl ha_Z
  clear hN_Z
  obtain ⟨hN_B, hv_B⟩ := WT_rngI (r := ((-2147483648), 2147483647)) hW id rfl ha_B
  clear hN_B
  have hjd := jdir_cases g.toInt
  have hjb : ∀ j : Nat, j < n.toInt.toNat → 0 ≤ (jim g.toInt (fun q => (S q).toInt) n.toInt.toNat x1.toInt (decide (x2.toInt = 1)) j) ∧ (jim g.toInt (fun q => (S q).toInt) n.toInt.toNat x1.toInt (decide (x2.toInt = 1)) j) < jdir g.toInt := fun j hj => jim_b (by omega) (by omega) (fun q hq => hp7 q (by omega)) hj
  refine Jz_iconst 0 dX1_isBelow_0 (by decide) (fun y0 he0 => ?_)
  refine J_istore dX1_isBelow_1 rfl (by decide) ?_
  have L3 : ∀ (N : Nat) (i4n3 : Int32), (0 ≤ i4n3.toInt ∧ i4n3.toInt ≤ n.toInt) → (∀ j : Nat, (j : Int) < i4n3.toInt → (jim g.toInt (fun q => (S q).toInt) n.toInt.toNat x1.toInt (decide (x2.toInt = 1)) j) = (B j).toInt) → (300 - i4n3.toInt).toNat < N → J tS mX1_isBelow d 3 [some (.ref a0), some (.int x1), some (.int x2), some (.ref a3), some (.int i4n3), none] [] V0 0 0 (fun r V => (fun r _ => ∃ y : Int32, r = some (.int y) ∧ (0 ≤ y.toInt) ∧ (y.toInt ≤ 1) ∧ ((y.toInt = 1 ∧ jlx n.toInt.toNat (jim g.toInt (fun q => (S q).toInt) n.toInt.toNat x1.toInt (decide (x2.toInt = 1))) (fun q => (B q).toInt)) ∨ (y.toInt = 0 ∧ ¬ jlx n.toInt.toNat (jim g.toInt (fun q => (S q).toInt) n.toInt.toNat x1.toInt (decide (x2.toInt = 1))) (fun q => (B q).toInt)))) r V ∧ V = V0) := by
    intro N
    induction N with
    | zero => intro i4n3  hi4 heq hm; exact absurd hm (Nat.not_lt_zero _)
    | succ N ih =>
      intro i4n3  hi4 heq hm
      have ih3 := ih
      have hri4 := j_rng i4n3
      refine J_iload dX1_isBelow_3 rfl ?_
      refine J_aload_n dX1_isBelow_5 rfl ?_
      refine J_get jf_X1_9 dX1_isBelow_6 hO_a0 hF_n ?_
      refine Jz_icmp_ge (tgt := 51) jEq.rf jEq.rf dX1_isBelow_9 (by decide) (fun c9 => ?_) (fun c9 => ?_)
      · refine Jz_iconst 0 dX1_isBelow_51 (by decide) (fun y51 he51 => ?_)
        exact J_ret (r := some (.int _)) dX1_isBelow_52 ⟨rfl, _, rfl, (nar_b (by (try simp only [he51.eq, true_and, and_true]) <;> omega) (by (try simp only [he51.eq, true_and, and_true]) <;> omega))⟩ (⟨⟨_, rfl, (by (try simp only [he51.eq, true_and, and_true]) <;> omega), (by (try simp only [he51.eq, true_and, and_true]) <;> omega), (Or.inr ⟨he51.eq, jlx_eq (fun j hj => heq j (by omega))⟩)⟩, rfl⟩)
      · refine J_aload_n dX1_isBelow_12 rfl ?_
        refine J_iload_n dX1_isBelow_13 rfl ?_
        refine J_iload_n dX1_isBelow_14 rfl ?_
        refine J_iload dX1_isBelow_15 rfl ?_
        refine J_callS4 moX1_turnedStep jw_ml_X1_41 jw_st_X1_turnedStep dX1_isBelow_17 (w_X1_turnedStep_z (d - 1) _ a0 x1 x2 i4n3 M g n s xx yy zz S X Y Z (by omega) hW  ha0 (by omega) (by omega) ⟨_, hO_a0, hF_M⟩ ⟨_, hO_a0, hF_g⟩ ⟨_, hO_a0, hF_n⟩ ⟨_, hO_a0, hF_s⟩ ⟨_, hO_a0, hF_xx⟩ ⟨_, hO_a0, hF_yy⟩ ⟨_, hO_a0, hF_zz⟩ ha_S ha_X ha_Y ha_Z (by omega) (by omega) (by omega) (by omega) (by omega) (by omega) (by omega) (by omega) (by omega) (by omega)) (by omega) (Nat.zero_le _) (Nat.zero_le _) (Nat.le_of_ble_eq_true rfl) (fun r17 V17 h17 => ?_)
        obtain ⟨⟨y17, rfl, hl17, hh17, hP17_0⟩, hE17⟩ := h17
        have hE17 := hE17.symm
        subst hE17
        clear hl17 hh17
        have hz17 : jEq y17.toInt ((jim (g.toInt) (fun q => (S q).toInt) (n.toInt).toNat (x1.toInt) (decide ((x2.toInt) = 1)) (i4n3.toInt).toNat)) := hP17_0
        clear hP17_0
        have hb1 := hjb i4n3.toInt.toNat (by omega)
        have hb2 := hp9 i4n3.toInt.toNat (by omega)
        refine J_aload_n dX1_isBelow_20 rfl ?_
        refine J_iload dX1_isBelow_21 rfl ?_
        refine J_callSN2 moX6_cell (host := "WalkGrounds") (List.mem_of_getElem? (i := 3) rfl) jw_st_X6_cell dX1_isBelow_23 (w_X6_cell_x (d - 1) _ a3 i4n3 ha_B (WT_rngI (r := (-2147483648, 2147483647)) hW id rfl ha_B).1 rfl (by omega) (by omega)) (by omega) (Nat.zero_le _) (Nat.zero_le _) (Nat.le_of_ble_eq_true rfl) (fun r23 V23 h23 => ?_)
        obtain ⟨⟨y23, rfl, hf23⟩, hE23⟩ := h23
        have hE23 := hE23.symm
        subst hE23
        have hz23 : jEq y23.toInt (B (i4n3.toInt).toNat).toInt := by rw [← hf23]; rfl
        clear hf23
        · refine Jz_isub hz17 hz23 dX1_isBelow_26 (by omega) (by omega) (fun y26 he26 => ?_)
          refine J_istore dX1_isBelow_27 rfl (by decide) ?_
          refine J_iload dX1_isBelow_29 rfl ?_
          refine Jz_if_eq (tgt := 45) he26 dX1_isBelow_31 (by decide) (fun c31 => ?_) (fun c31 => ?_)
          · refine Jz_iinc 1 dX1_isBelow_45 rfl rfl (by decide) jEq.rf (by decide) (by omega) (by omega) (fun y45 he45 => ?_)
            refine J_goto (tgt := 3) dX1_isBelow_48 (by decide) ?_
            refine J.mask [true, true, true, true, true, false] ?_
            exact ih3  y45  (by (try simp only [he45.eq, true_and, and_true]) <;> omega) (fun j hj => by rw [he45.eq] at hj; by_cases h9 : (j : Int) = i4n3.toInt; (have e : j = i4n3.toInt.toNat := by omega); subst e; omega; exact heq j (by omega)) (by (try simp only [he45.eq, true_and, and_true]) <;> omega)
          · refine J_iload dX1_isBelow_34 rfl ?_
            refine Jz_if_ge (tgt := 43) he26 dX1_isBelow_36 (by decide) (fun c36 => ?_) (fun c36 => ?_)
            · refine Jz_iconst 0 dX1_isBelow_43 (by decide) (fun y43 he43 => ?_)
              exact J_ret (r := some (.int _)) dX1_isBelow_44 ⟨rfl, _, rfl, (nar_b (by (try simp only [he43.eq, true_and, and_true]) <;> omega) (by (try simp only [he43.eq, true_and, and_true]) <;> omega))⟩ (⟨⟨_, rfl, (by (try simp only [he43.eq, true_and, and_true]) <;> omega), (by (try simp only [he43.eq, true_and, and_true]) <;> omega), (by have q := jlx_at (n := n.toInt.toNat) (i := i4n3.toInt.toNat) (F := (jim g.toInt (fun q => (S q).toInt) n.toInt.toNat x1.toInt (decide (x2.toInt = 1)))) (B := (fun q => (B q).toInt)) (by omega) (fun j hj => heq j (by omega)) (fun z => c31 (by have z2 : (jim g.toInt (fun q => (S q).toInt) n.toInt.toNat x1.toInt (decide (x2.toInt = 1)) i4n3.toInt.toNat) = (B i4n3.toInt.toNat).toInt := z; omega)); first | exact Or.inl ⟨he39.eq, q.mpr (show (jim g.toInt (fun q => (S q).toInt) n.toInt.toNat x1.toInt (decide (x2.toInt = 1)) i4n3.toInt.toNat) < (B i4n3.toInt.toNat).toInt by omega)⟩ | exact Or.inr ⟨he43.eq, fun z => absurd (show (jim g.toInt (fun q => (S q).toInt) n.toInt.toNat x1.toInt (decide (x2.toInt = 1)) i4n3.toInt.toNat) < (B i4n3.toInt.toNat).toInt from q.mp z) (by omega)⟩)⟩, rfl⟩)
            · refine Jz_iconst 1 dX1_isBelow_39 (by decide) (fun y39 he39 => ?_)
              refine J_goto (tgt := 44) dX1_isBelow_40 (by decide) ?_
              exact J_ret (r := some (.int _)) dX1_isBelow_44 ⟨rfl, _, rfl, (nar_b (by (try simp only [he39.eq, true_and, and_true]) <;> omega) (by (try simp only [he39.eq, true_and, and_true]) <;> omega))⟩ (⟨⟨_, rfl, (by (try simp only [he39.eq, true_and, and_true]) <;> omega), (by (try simp only [he39.eq, true_and, and_true]) <;> omega), (by have q := jlx_at (n := n.toInt.toNat) (i := i4n3.toInt.toNat) (F := (jim g.toInt (fun q => (S q).toInt) n.toInt.toNat x1.toInt (decide (x2.toInt = 1)))) (B := (fun q => (B q).toInt)) (by omega) (fun j hj => heq j (by omega)) (fun z => c31 (by have z2 : (jim g.toInt (fun q => (S q).toInt) n.toInt.toNat x1.toInt (decide (x2.toInt = 1)) i4n3.toInt.toNat) = (B i4n3.toInt.toNat).toInt := z; omega)); first | exact Or.inl ⟨he39.eq, q.mpr (show (jim g.toInt (fun q => (S q).toInt) n.toInt.toNat x1.toInt (decide (x2.toInt = 1)) i4n3.toInt.toNat) < (B i4n3.toInt.toNat).toInt by omega)⟩ | exact Or.inr ⟨he43.eq, fun z => absurd (show (jim g.toInt (fun q => (S q).toInt) n.toInt.toNat x1.toInt (decide (x2.toInt = 1)) i4n3.toInt.toNat) < (B i4n3.toInt.toNat).toInt from q.mp z) (by omega)⟩)⟩, rfl⟩)
  refine J.mask [true, true, true, true, true, false] ?_
  exact L3 _  y0    (by (try simp only [he0.eq, true_and, and_true]) <;> omega) (fun j hj => by rw [he0.eq] at hj; omega) (Nat.lt_succ_self _)
