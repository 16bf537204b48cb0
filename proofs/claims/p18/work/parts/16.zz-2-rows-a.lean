set_option maxRecDepth 100000 in
set_option maxHeartbeats 8000000 in
theorem w_X1_isBelow_s {tS : jTS} (d : Nat) (V0 : jH) {ln : Nat} (a0 : Nat) (x1 : Int32) (x2 : Int32) (a3 : Nat) (M : Int32) (g : Int32) (n : Int32) (s : Nat) (xx : Nat) (yy : Nat) (zz : Nat) (S : Nat → Int32) (X : Nat → Int32) (Y : Nat → Int32) (Z : Nat → Int32) (B : Nat → Int32) (hd : 3 ≤ d) (hW : WT V0) (ha0 : jis V0 (.inr 1) a0) (hl2 : 0 ≤ x2.toInt) (hh2 : x2.toInt ≤ 1) (ha3 : jis V0 (.inl 6) a3) (hf_M : jfI V0 a0 1 0 M) (hf_g : jfI V0 a0 1 5 g) (hf_n : jfI V0 a0 1 6 n) (hr_s : jfR V0 a0 1 1 s) (hr_xx : jfR V0 a0 1 2 xx) (hr_yy : jfR V0 a0 1 3 yy) (hr_zz : jfR V0 a0 1 4 zz) (ha_S : V0 s = some (.inl (6, ln, .inl S))) (ha_X : V0 xx = some (.inl (34, ln + 1, .inl X))) (ha_Y : V0 yy = some (.inl (35, ln + 1, .inl Y))) (ha_Z : V0 zz = some (.inl (36, ln + 1, .inl Z))) (ha_B : V0 a3 = some (.inl (6, ln, .inl B))) (hp0 : M.toInt = (ln : Int)) (hp1 : (ln : Int) ≤ 120) (hp2 : n.toInt ≤ M.toInt) (hp3 : 0 ≤ g.toInt) (hp4 : g.toInt ≤ 3) (hp5 : 0 ≤ x1.toInt) (hp6 : x1.toInt < jtur g.toInt) (hp7 : ∀ j : Nat, (j : Int) < n.toInt → 0 ≤ (S j).toInt ∧ (S j).toInt < jdir g.toInt) (hp8 : n.toInt ≤ 60) (hp9 : ∀ j : Nat, (j : Int) < n.toInt → 0 ≤ (B j).toInt ∧ (B j).toInt < jdir g.toInt) : jTot tS mX1_isBelow d [.ref a0, .int x1, .int x2, .ref a3] V0 0 0 (fun r V => (fun r _ => ∃ y : Int32, r = some (.int y) ∧ (0 ≤ y.toInt) ∧ (y.toInt ≤ 1) ∧ ((y.toInt = 1 ∧ jlx n.toInt.toNat (jim g.toInt (fun q => (S q).toInt) n.toInt.toNat x1.toInt (decide (x2.toInt = 1))) (fun q => (B q).toInt)) ∨ (y.toInt = 0 ∧ ¬ jlx n.toInt.toNat (jim g.toInt (fun q => (S q).toInt) n.toInt.toNat x1.toInt (decide (x2.toInt = 1))) (fun q => (B q).toInt)))) r V ∧ V = V0) := by
  refine jTot.of_J [some (.ref a0), some (.int x1), some (.int x2), some (.ref a3), none, none] moX1_isBelow (Nat.le_of_ble_eq_true rfl) rfl ?_
  have hrx1 := j_rng x1
  have he : jeff [] V0 V0 := jeff.refl _ _
  obtain ⟨fs_a0, hO_a0, hK_a0⟩ := WT_obj hW id ha0
  have hF_M := hf_M.get hO_a0
  have hrM : 0 ≤ M.toInt ∧ M.toInt ≤ 120 := jok_rngI hK_a0 rfl hF_M
  have hF_g := hf_g.get hO_a0
  have hrg : (-2147483648) ≤ g.toInt ∧ g.toInt ≤ 2147483647 := jok_rngI hK_a0 rfl hF_g
  have hF_n := hf_n.get hO_a0
  have hrn : 0 ≤ n.toInt ∧ n.toInt ≤ 120 := jok_rngI hK_a0 rfl hF_n
  have hF_s := hr_s.get hO_a0
  obtain ⟨w_s, hFq_s, b_s, hbq_s, hb_s⟩ := hK_a0.2 1 (.inr (some (.inl 6))) rfl
  cases hF_s.symm.trans (hFq_s.trans (congrArg some hbq_s))
  have hF_xx := hr_xx.get hO_a0
  obtain ⟨w_xx, hFq_xx, b_xx, hbq_xx, hb_xx⟩ := hK_a0.2 2 (.inr (some (.inl 34))) rfl
  cases hF_xx.symm.trans (hFq_xx.trans (congrArg some hbq_xx))
  have hF_yy := hr_yy.get hO_a0
  obtain ⟨w_yy, hFq_yy, b_yy, hbq_yy, hb_yy⟩ := hK_a0.2 3 (.inr (some (.inl 35))) rfl
  cases hF_yy.symm.trans (hFq_yy.trans (congrArg some hbq_yy))
  have hF_zz := hr_zz.get hO_a0
  obtain ⟨w_zz, hFq_zz, b_zz, hbq_zz, hb_zz⟩ := hK_a0.2 4 (.inr (some (.inl 36))) rfl
  cases hF_zz.symm.trans (hFq_zz.trans (congrArg some hbq_zz))
  obtain ⟨hN_S, hv_S⟩ := WT_rngI (r := ((-2147483648), 2147483647)) hW id rfl ha_S
  clear hN_S
  obtain ⟨hN_X, hv_X⟩ := WT_rngI (r := ((-2147483648), 2147483647)) hW id rfl ha_X
  clear hN_X
  obtain ⟨hN_Y, hv_Y⟩ := WT_rngI (r := ((-2147483648), 2147483647)) hW id rfl ha_Y
  clear hN_Y
  obtain ⟨hN_Z, hv_Z⟩ := WT_rngI (r := ((-2147483648), 2147483647)) hW id rfl ha_Z
  clear hN_Z
  obtain ⟨hN_B, hv_B⟩ := WT_rngI (r := ((-2147483648), 2147483647)) hW id rfl ha_B
  clear hN_B
  have hjd := jdir_cases g.toInt
  have hjb : ∀ j : Nat, j < n.toInt.toNat → 0 ≤ (jim g.toInt (fun q => (S q).toInt) n.toInt.toNat x1.toInt (decide (x2.toInt = 1)) j) ∧ (jim g.toInt (fun q => (S q).toInt) n.toInt.toNat x1.toInt (decide (x2.toInt = 1)) j) < jdir g.toInt := fun j hj => jim_b (by omega) (by omega) (fun q hq => hp7 q (by omega)) hj
  refine Jz_iconst 0 dX1_isBelow_0 (by decide) (fun y0 he0 => ?_)
  refine J_istore dX1_isBelow_1 rfl (by decide) ?_
  have L3 : ∀ (N : Nat) (i4n3 : Int32), (0 ≤ i4n3.toInt ∧ i4n3.toInt ≤ n.toInt) → (∀ j : Nat, (j : Int) < i4n3.toInt → (jim g.toInt (fun q => (S q).toInt) n.toInt.toNat x1.toInt (decide (x2.toInt = 1)) j) = (B j).toInt) → (300 - i4n3.toInt).toNat < N → J tS mX1_isBelow d 3 [some (.ref a0), some (.int x1), some (.int x2), some (.ref a3), some (.int i4n3), none] [] V0 0 0 (fun r V => (fun r _ => ∃ y : Int32, r = some (.int y) ∧ (0 ≤ y.toInt) ∧ (y.toInt ≤ 1) ∧ ((y.toInt = 1 ∧ jlx n.toInt.toNat (jim g.toInt (fun q => (S q).toInt) n.toInt.toNat x1.toInt (decide (x2.toInt = 1))) (fun q => (B q).toInt)) ∨ (y.toInt = 0 ∧ ¬ jlx n.toInt.toNat (jim g.toInt (fun q => (S q).toInt) n.toInt.toNat x1.toInt (decide (x2.toInt = 1))) (fun q => (B q).toInt)))) r V ∧ V = V0) := by
    intro N
    induction N with
    | zero => intro i4n3  hi4 heq hm; exact absurd hm (Nat.not_lt_zero _)
    | succ N ih =>
      intro i4n3  hi4 heq hm
      have ih3 := ih
      have hri4 := j_rng i4n3
      refine J_iload dX1_isBelow_3 rfl ?_
      refine J_aload_n dX1_isBelow_5 rfl ?_
      refine J_get jf_X1_9 dX1_isBelow_6 hO_a0 hF_n ?_
      refine Jz_icmp_ge (tgt := 51) jEq.rf jEq.rf dX1_isBelow_9 (by decide) (fun c9 => ?_) (fun c9 => ?_)
      · refine Jz_iconst 0 dX1_isBelow_51 (by decide) (fun y51 he51 => ?_)
        exact J_ret (r := some (.int _)) dX1_isBelow_52 ⟨rfl, _, rfl, (nar_b (by (try simp only [he51.eq, true_and, and_true]) <;> omega) (by (try simp only [he51.eq, true_and, and_true]) <;> omega))⟩ (⟨⟨_, rfl, (by (try simp only [he51.eq, true_and, and_true]) <;> omega), (by (try simp only [he51.eq, true_and, and_true]) <;> omega), (Or.inr ⟨he51.eq, jlx_eq (fun j hj => heq j (by omega))⟩)⟩, rfl⟩)
      · refine J_aload_n dX1_isBelow_12 rfl ?_
        refine J_iload_n dX1_isBelow_13 rfl ?_
        refine J_iload_n dX1_isBelow_14 rfl ?_
        refine J_iload dX1_isBelow_15 rfl ?_
        refine J_callS4 moX1_turnedStep jw_ml_X1_41 jw_st_X1_turnedStep dX1_isBelow_17 (w_X1_turnedStep_z (d - 1) _ a0 x1 x2 i4n3 M g n s xx yy zz S X Y Z (by omega) hW  ha0 (by omega) (by omega) ⟨_, hO_a0, hF_M⟩ ⟨_, hO_a0, hF_g⟩ ⟨_, hO_a0, hF_n⟩ ⟨_, hO_a0, hF_s⟩ ⟨_, hO_a0, hF_xx⟩ ⟨_, hO_a0, hF_yy⟩ ⟨_, hO_a0, hF_zz⟩ ha_S ha_X ha_Y ha_Z (by omega) (by omega) (by omega) (by omega) (by omega) (by omega) (by omega) (by omega) (by omega) (by omega)) (by omega) (Nat.zero_le _) (Nat.zero_le _) (Nat.le_of_ble_eq_true rfl) (fun r17 V17 h17 => ?_)
        obtain ⟨⟨y17, rfl, hl17, hh17, hP17_0⟩, hE17⟩ := h17
        have hE17 := hE17.symm
        subst hE17
        clear hl17 hh17
        have hz17 : jEq y17.toInt ((jim (g.toInt) (fun q => (S q).toInt) (n.toInt).toNat (x1.toInt) (decide ((x2.toInt) = 1)) (i4n3.toInt).toNat)) := hP17_0
        clear hP17_0
        have hb1 := hjb i4n3.toInt.toNat (by omega)
        have hb2 := hp9 i4n3.toInt.toNat (by omega)
        refine J_aload_n dX1_isBelow_20 rfl ?_
        refine J_iload dX1_isBelow_21 rfl ?_
        refine J_callSN2 moX6_cell (host := "WalkGrounds") (List.mem_of_getElem? (i := 3) rfl) jw_st_X6_cell dX1_isBelow_23 (w_X6_cell_x (d - 1) _ a3 i4n3 ha_B (WT_rngI (r := (-2147483648, 2147483647)) hW id rfl ha_B).1 rfl (by omega) (by omega)) (by omega) (Nat.zero_le _) (Nat.zero_le _) (Nat.le_of_ble_eq_true rfl) (fun r23 V23 h23 => ?_)
        obtain ⟨⟨y23, rfl, hf23⟩, hE23⟩ := h23
        have hE23 := hE23.symm
        subst hE23
        have hz23 : jEq y23.toInt (B (i4n3.toInt).toNat).toInt := by rw [← hf23]; rfl
        clear hf23
        · refine Jz_isub hz17 hz23 dX1_isBelow_26 (by omega) (by omega) (fun y26 he26 => ?_)
          refine J_istore dX1_isBelow_27 rfl (by decide) ?_
          refine J_iload dX1_isBelow_29 rfl ?_
          refine Jz_if_eq (tgt := 45) he26 dX1_isBelow_31 (by decide) (fun c31 => ?_) (fun c31 => ?_)
          · refine Jz_iinc 1 dX1_isBelow_45 rfl rfl (by decide) jEq.rf (by decide) (by omega) (by omega) (fun y45 he45 => ?_)
            refine J_goto (tgt := 3) dX1_isBelow_48 (by decide) ?_
            refine J.mask [true, true, true, true, true, false] ?_
            exact ih3  y45  (by (try simp only [he45.eq, true_and, and_true]) <;> omega) (fun j hj => by rw [he45.eq] at hj; by_cases h9 : (j : Int) = i4n3.toInt; (have e : j = i4n3.toInt.toNat := by omega); subst e; omega; exact heq j (by omega)) (by (try simp only [he45.eq, true_and, and_true]) <;> omega)
          · refine J_iload dX1_isBelow_34 rfl ?_
            refine Jz_if_ge (tgt := 43) he26 dX1_isBelow_36 (by decide) (fun c36 => ?_) (fun c36 => ?_)
            · refine Jz_iconst 0 dX1_isBelow_43 (by decide) (fun y43 he43 => ?_)
              exact J_ret (r := some (.int _)) dX1_isBelow_44 ⟨rfl, _, rfl, (nar_b (by (try simp only [he43.eq, true_and, and_true]) <;> omega) (by (try simp only [he43.eq, true_and, and_true]) <;> omega))⟩ (⟨⟨_, rfl, (by (try simp only [he43.eq, true_and, and_true]) <;> omega), (by (try simp only [he43.eq, true_and, and_true]) <;> omega), (by have q := jlx_at (n := n.toInt.toNat) (i := i4n3.toInt.toNat) (F := (jim g.toInt (fun q => (S q).toInt) n.toInt.toNat x1.toInt (decide (x2.toInt = 1)))) (B := (fun q => (B q).toInt)) (by omega) (fun j hj => heq j (by omega)) (fun z => c31 (by have z2 : (jim g.toInt (fun q => (S q).toInt) n.toInt.toNat x1.toInt (decide (x2.toInt = 1)) i4n3.toInt.toNat) = (B i4n3.toInt.toNat).toInt := z; omega)); first | exact Or.inl ⟨he39.eq, q.mpr (show (jim g.toInt (fun q => (S q).toInt) n.toInt.toNat x1.toInt (decide (x2.toInt = 1)) i4n3.toInt.toNat) < (B i4n3.toInt.toNat).toInt by omega)⟩ | exact Or.inr ⟨he43.eq, fun z => absurd (show (jim g.toInt (fun q => (S q).toInt) n.toInt.toNat x1.toInt (decide (x2.toInt = 1)) i4n3.toInt.toNat) < (B i4n3.toInt.toNat).toInt from q.mp z) (by omega)⟩)⟩, rfl⟩)
            · refine Jz_iconst 1 dX1_isBelow_39 (by decide) (fun y39 he39 => ?_)
              refine J_goto (tgt := 44) dX1_isBelow_40 (by decide) ?_
              exact J_ret (r := some (.int _)) dX1_isBelow_44 ⟨rfl, _, rfl, (nar_b (by (try simp only [he39.eq, true_and, and_true]) <;> omega) (by (try simp only [he39.eq, true_and, and_true]) <;> omega))⟩ (⟨⟨_, rfl, (by (try simp only [he39.eq, true_and, and_true]) <;> omega), (by (try simp only [he39.eq, true_and, and_true]) <;> omega), (by have q := jlx_at (n := n.toInt.toNat) (i := i4n3.toInt.toNat) (F := (jim g.toInt (fun q => (S q).toInt) n.toInt.toNat x1.toInt (decide (x2.toInt = 1)))) (B := (fun q => (B q).toInt)) (by omega) (fun j hj => heq j (by omega)) (fun z => c31 (by have z2 : (jim g.toInt (fun q => (S q).toInt) n.toInt.toNat x1.toInt (decide (x2.toInt = 1)) i4n3.toInt.toNat) = (B i4n3.toInt.toNat).toInt := z; omega)); first | exact Or.inl ⟨he39.eq, q.mpr (show (jim g.toInt (fun q => (S q).toInt) n.toInt.toNat x1.toInt (decide (x2.toInt = 1)) i4n3.toInt.toNat) < (B i4n3.toInt.toNat).toInt by omega)⟩ | exact Or.inr ⟨he43.eq, fun z => absurd (show (jim g.toInt (fun q => (S q).toInt) n.toInt.toNat x1.toInt (decide (x2.toInt = 1)) i4n3.toInt.toNat) < (B i4n3.toInt.toNat).toInt from q.mp z) (by omega)⟩)⟩, rfl⟩)
  refine J.mask [true, true, true, true, true, false] ?_
  exact L3 _  y0    (by (try simp only [he0.eq, true_and, and_true]) <;> omega) (fun j hj => by rw [he0.eq] at hj; omega) (Nat.lt_succ_self _)
set_option maxRecDepth 100000 in
set_option maxHeartbeats 8000000 in
theorem w_X1_isOwnForm_z {tS : jTS} (d : Nat) (V0 : jH) {ln : Nat} (a0 : Nat) (M : Int32) (g : Int32) (n : Int32) (s : Nat) (xx : Nat) (yy : Nat) (zz : Nat) (S : Nat → Int32) (X : Nat → Int32) (Y : Nat → Int32) (Z : Nat → Int32) (hd : 4 ≤ d) (hW : WT V0) (ha0 : jis V0 (.inr 1) a0) (hf_M : jfI V0 a0 1 0 M) (hf_g : jfI V0 a0 1 5 g) (hf_n : jfI V0 a0 1 6 n) (hr_s : jfR V0 a0 1 1 s) (hr_xx : jfR V0 a0 1 2 xx) (hr_yy : jfR V0 a0 1 3 yy) (hr_zz : jfR V0 a0 1 4 zz) (ha_S : V0 s = some (.inl (6, ln, .inl S))) (ha_X : V0 xx = some (.inl (34, ln + 1, .inl X))) (ha_Y : V0 yy = some (.inl (35, ln + 1, .inl Y))) (ha_Z : V0 zz = some (.inl (36, ln + 1, .inl Z))) (hp0 : M.toInt = (ln : Int)) (hp1 : (ln : Int) ≤ 120) (hp2 : n.toInt ≤ M.toInt) (hp3 : 0 ≤ g.toInt) (hp4 : g.toInt ≤ 3) (hp5 : ∀ j : Nat, (j : Int) < n.toInt → 0 ≤ (S j).toInt ∧ (S j).toInt < jdir g.toInt) (hp6 : n.toInt ≤ 60) : jTot tS mX1_isOwnForm d [.ref a0] V0 0 0 (fun r V => (fun r _ => ∃ y : Int32, r = some (.int y) ∧ (0 ≤ y.toInt) ∧ (y.toInt ≤ 1) ∧ ((y.toInt = 1 ∧ jow g.toInt (fun q => (S q).toInt) n.toInt.toNat) ∨ (y.toInt = 0 ∧ ¬ jow g.toInt (fun q => (S q).toInt) n.toInt.toNat))) r V ∧ V = V0) := by
  refine jTot.of_J [some (.ref a0), none] moX1_isOwnForm (Nat.le_of_ble_eq_true rfl) rfl ?_
  have he : jeff [] V0 V0 := jeff.refl _ _
  obtain ⟨fs_a0, hO_a0, hK_a0⟩ := WT_obj hW id ha0
  have hF_M := hf_M.get hO_a0
  have hrM : 0 ≤ M.toInt ∧ M.toInt ≤ 120 := jok_rngI hK_a0 rfl hF_M
  have hF_g := hf_g.get hO_a0
  have hrg : (-2147483648) ≤ g.toInt ∧ g.toInt ≤ 2147483647 := jok_rngI hK_a0 rfl hF_g
  have hF_n := hf_n.get hO_a0
  have hrn : 0 ≤ n.toInt ∧ n.toInt ≤ 120 := jok_rngI hK_a0 rfl hF_n
  have hF_s := hr_s.get hO_a0
  obtain ⟨w_s, hFq_s, b_s, hbq_s, hb_s⟩ := hK_a0.2 1 (.inr (some (.inl 6))) rfl
  cases hF_s.symm.trans (hFq_s.trans (congrArg some hbq_s))
  have hF_xx := hr_xx.get hO_a0
  obtain ⟨w_xx, hFq_xx, b_xx, hbq_xx, hb_xx⟩ := hK_a0.2 2 (.inr (some (.inl 34))) rfl
  cases hF_xx.symm.trans (hFq_xx.trans (congrArg some hbq_xx))
  have hF_yy := hr_yy.get hO_a0
  obtain ⟨w_yy, hFq_yy, b_yy, hbq_yy, hb_yy⟩ := hK_a0.2 3 (.inr (some (.inl 35))) rfl
  cases hF_yy.symm.trans (hFq_yy.trans (congrArg some hbq_yy))
  have hF_zz := hr_zz.get hO_a0
  obtain ⟨w_zz, hFq_zz, b_zz, hbq_zz, hb_zz⟩ := hK_a0.2 4 (.inr (some (.inl 36))) rfl
  cases hF_zz.symm.trans (hFq_zz.trans (congrArg some hbq_zz))
  obtain ⟨hN_S, hv_S⟩ := WT_rngI (r := ((-2147483648), 2147483647)) hW id rfl ha_S
  clear hN_S
  obtain ⟨hN_X, hv_X⟩ := WT_rngI (r := ((-2147483648), 2147483647)) hW id rfl ha_X
  clear hN_X
  obtain ⟨hN_Y, hv_Y⟩ := WT_rngI (r := ((-2147483648), 2147483647)) hW id rfl ha_Y
  clear hN_Y
  obtain ⟨hN_Z, hv_Z⟩ := WT_rngI (r := ((-2147483648), 2147483647)) hW id rfl ha_Z
  clear hN_Z
  have htc := jtur_cases g.toInt
  have hjd := jdir_cases g.toInt
  refine Jz_iconst 0 dX1_isOwnForm_0 (by decide) (fun y0 he0 => ?_)
  refine J_istore_n dX1_isOwnForm_1 rfl (by decide) ?_
  have L2 : ∀ (N : Nat) (i1n2 : Int32), (0 ≤ i1n2.toInt ∧ i1n2.toInt ≤ jtur g.toInt) → (∀ k : Nat, (k : Int) < 2 * i1n2.toInt → ¬ jlx n.toInt.toNat (jim g.toInt (fun q => (S q).toInt) n.toInt.toNat ((k / 2 : Nat) : Int) (decide (k % 2 = 1))) (fun q => (S q).toInt)) → (300 - i1n2.toInt).toNat < N → J tS mX1_isOwnForm d 2 [some (.ref a0), some (.int i1n2)] [] V0 0 0 (fun r V => (fun r _ => ∃ y : Int32, r = some (.int y) ∧ (0 ≤ y.toInt) ∧ (y.toInt ≤ 1) ∧ ((y.toInt = 1 ∧ jow g.toInt (fun q => (S q).toInt) n.toInt.toNat) ∨ (y.toInt = 0 ∧ ¬ jow g.toInt (fun q => (S q).toInt) n.toInt.toNat))) r V ∧ V = V0) := by
    intro N
    induction N with
    | zero => intro i1n2  ht how hm; exact absurd hm (Nat.not_lt_zero _)
    | succ N ih =>
      intro i1n2  ht how hm
      have ih2 := ih
      have hri1 := j_rng i1n2
      refine J_iload_n dX1_isOwnForm_2 rfl ?_
      refine J_aload_n dX1_isOwnForm_3 rfl ?_
      refine J_get jf_X1_23 dX1_isOwnForm_4 hO_a0 hF_g ?_
      refine J_callS1 moX0_turns jw_ml_X1_26 jw_st_X0_turns dX1_isOwnForm_7 (w_X0_turns_z (d - 1) _ g (by omega)   (by omega) (by omega)) (by omega) (Nat.zero_le _) (Nat.zero_le _) (Nat.le_of_ble_eq_true rfl) (fun r7 V7 h7 => ?_)
      obtain ⟨⟨y7, rfl, hl7, hh7, hP7_0⟩, hE7⟩ := h7
      have hE7 := hE7.symm
      subst hE7
      clear hl7 hh7
      have hz7 : jEq y7.toInt (jtur (g.toInt)) := hP7_0
      clear hP7_0
      refine Jz_icmp_ge (tgt := 47) jEq.rf hz7 dX1_isOwnForm_10 (by decide) (fun c10 => ?_) (fun c10 => ?_)
      · refine Jz_iconst 1 dX1_isOwnForm_47 (by decide) (fun y47 he47 => ?_)
        exact J_ret (r := some (.int _)) dX1_isOwnForm_48 ⟨rfl, _, rfl, (nar_b (by (try simp only [he47.eq, true_and, and_true]) <;> omega) (by (try simp only [he47.eq, true_and, and_true]) <;> omega))⟩ (⟨⟨_, rfl, (by (try simp only [he47.eq, true_and, and_true]) <;> omega), (by (try simp only [he47.eq, true_and, and_true]) <;> omega), (Or.inl ⟨he47.eq, fun k hk => how k (by omega)⟩)⟩, rfl⟩)
      · refine J_aload_n dX1_isOwnForm_13 rfl ?_
        refine J_iload_n dX1_isOwnForm_14 rfl ?_
        refine Jz_iconst 0 dX1_isOwnForm_15 (by decide) (fun y15 he15 => ?_)
        refine J_aload_n dX1_isOwnForm_16 rfl ?_
        refine J_get jf_X1_57 dX1_isOwnForm_17 hO_a0 hF_s ?_
        refine J_callS4 moX1_isBelow jw_ml_X1_37 jw_st_X1_isBelow dX1_isOwnForm_20 (w_X1_isBelow_s (d - 1) _ a0 i1n2 y15 s M g n s xx yy zz S X Y Z S (by omega) hW  ha0 (by (try simp only [he15.eq, true_and, and_true]) <;> omega) (by (try simp only [he15.eq, true_and, and_true]) <;> omega) hb_s ⟨_, hO_a0, hF_M⟩ ⟨_, hO_a0, hF_g⟩ ⟨_, hO_a0, hF_n⟩ ⟨_, hO_a0, hF_s⟩ ⟨_, hO_a0, hF_xx⟩ ⟨_, hO_a0, hF_yy⟩ ⟨_, hO_a0, hF_zz⟩ ha_S ha_X ha_Y ha_Z ha_S (by omega) (by omega) (by omega) (by omega) (by omega) (by omega) (by omega) hp5 (by omega) hp5) (by omega) (Nat.zero_le _) (Nat.zero_le _) (Nat.le_of_ble_eq_true rfl) (fun r20 V20 h20 => ?_)
        obtain ⟨⟨y20, rfl, hl20, hh20, hP20_0⟩, hE20⟩ := h20
        have hE20 := hE20.symm
        subst hE20
        try simp only [he15.eq] at hP20_0
        refine Jz_if_ne (tgt := 39) jEq.rf dX1_isOwnForm_23 (by decide) (fun c23 => ?_) (fun c23 => ?_)
        · refine Jz_iconst 0 dX1_isOwnForm_39 (by decide) (fun y39 he39 => ?_)
          exact J_ret (r := some (.int _)) dX1_isOwnForm_40 ⟨rfl, _, rfl, (nar_b (by (try simp only [he39.eq, true_and, and_true]) <;> omega) (by (try simp only [he39.eq, true_and, and_true]) <;> omega))⟩ (⟨⟨_, rfl, (by (try simp only [he39.eq, true_and, and_true]) <;> omega), (by (try simp only [he39.eq, true_and, and_true]) <;> omega), (Or.inr ⟨he39.eq, jow.no (2 * i1n2.toInt.toNat) (by omega) (decide_eq_false (by omega)) (by omega) (hP20_0.elim (fun q => q.2) (fun q => absurd q.1 (by omega)))⟩)⟩, rfl⟩)
        · refine J_aload_n dX1_isOwnForm_26 rfl ?_
          refine J_iload_n dX1_isOwnForm_27 rfl ?_
          refine Jz_iconst 1 dX1_isOwnForm_28 (by decide) (fun y28 he28 => ?_)
          refine J_aload_n dX1_isOwnForm_29 rfl ?_
          refine J_get jf_X1_57 dX1_isOwnForm_30 hO_a0 hF_s ?_
          refine J_callS4 moX1_isBelow jw_ml_X1_37 jw_st_X1_isBelow dX1_isOwnForm_33 (w_X1_isBelow_s (d - 1) _ a0 i1n2 y28 s M g n s xx yy zz S X Y Z S (by omega) hW  ha0 (by (try simp only [he28.eq, true_and, and_true]) <;> omega) (by (try simp only [he28.eq, true_and, and_true]) <;> omega) hb_s ⟨_, hO_a0, hF_M⟩ ⟨_, hO_a0, hF_g⟩ ⟨_, hO_a0, hF_n⟩ ⟨_, hO_a0, hF_s⟩ ⟨_, hO_a0, hF_xx⟩ ⟨_, hO_a0, hF_yy⟩ ⟨_, hO_a0, hF_zz⟩ ha_S ha_X ha_Y ha_Z ha_S (by omega) (by omega) (by omega) (by omega) (by omega) (by omega) (by omega) hp5 (by omega) hp5) (by omega) (Nat.zero_le _) (Nat.zero_le _) (Nat.le_of_ble_eq_true rfl) (fun r33 V33 h33 => ?_)
          obtain ⟨⟨y33, rfl, hl33, hh33, hP33_0⟩, hE33⟩ := h33
          have hE33 := hE33.symm
          subst hE33
          try simp only [he28.eq] at hP33_0
          refine Jz_if_eq (tgt := 41) jEq.rf dX1_isOwnForm_36 (by decide) (fun c36 => ?_) (fun c36 => ?_)
          · refine Jz_iinc 1 dX1_isOwnForm_41 rfl rfl (by decide) jEq.rf (by decide) (by omega) (by omega) (fun y41 he41 => ?_)
            refine J_goto (tgt := 2) dX1_isOwnForm_44 (by decide) ?_
            refine J.mask [true, true] ?_
            exact ih2  y41  (by (try simp only [he41.eq, true_and, and_true]) <;> omega) (by rw [he41.eq]; exact jow.step (by omega) how (hP20_0.elim (fun q => absurd q.1 (by omega)) (fun q => q.2)) (hP33_0.elim (fun q => absurd q.1 (by omega)) (fun q => q.2))) (by (try simp only [he41.eq, true_and, and_true]) <;> omega)
          · refine Jz_iconst 0 dX1_isOwnForm_39 (by decide) (fun y39 he39 => ?_)
            exact J_ret (r := some (.int _)) dX1_isOwnForm_40 ⟨rfl, _, rfl, (nar_b (by (try simp only [he39.eq, true_and, and_true]) <;> omega) (by (try simp only [he39.eq, true_and, and_true]) <;> omega))⟩ (⟨⟨_, rfl, (by (try simp only [he39.eq, true_and, and_true]) <;> omega), (by (try simp only [he39.eq, true_and, and_true]) <;> omega), (Or.inr ⟨he39.eq, jow.no (2 * i1n2.toInt.toNat + 1) (by omega) (decide_eq_true (by omega)) (by omega) (hP33_0.elim (fun q => q.2) (fun q => absurd q.1 (by omega)))⟩)⟩, rfl⟩)
  refine J.mask [true, true] ?_
  exact L2 _  y0    (by (try simp only [he0.eq, true_and, and_true]) <;> omega) (fun k hk => absurd hk (by rw [he0.eq]; omega)) (Nat.lt_succ_self _)
set_option maxRecDepth 100000 in
set_option maxHeartbeats 8000000 in
theorem w_X1_countForms_z {tS : jTS} : ∀ (K d : Nat) (V0 : jH) (a0 : Nat) (x1 : Int32) (x2 : Int32) (M : Int32) (g : Int32) (n : Int32) (s : Nat) (xx : Nat) (yy : Nat) (zz : Nat) (S : Nat → Int32) (X : Nat → Int32) (Y : Nat → Int32) (Z : Nat → Int32), 5 + K ≤ d → WT V0 → (jis V0 (.inr 1) a0) → (0 ≤ x2.toInt) → (x2.toInt ≤ 7) → (jfI V0 a0 1 0 M) → (jfI V0 a0 1 5 g) → (jfI V0 a0 1 6 n) → (jfR V0 a0 1 1 s) → (jfR V0 a0 1 2 xx) → (jfR V0 a0 1 3 yy) → (jfR V0 a0 1 4 zz) → (V0 s = some (.inl (6, 120, .inl S))) → (V0 xx = some (.inl (34, 121, .inl X))) → (V0 yy = some (.inl (35, 121, .inl Y))) → (V0 zz = some (.inl (36, 121, .inl Z))) → (M.toInt = 120) → (0 ≤ g.toInt) → (g.toInt ≤ 3) → (n.toInt = x2.toInt) → (x2.toInt ≤ x1.toInt) → (x1.toInt ≤ 7) → (∀ j : Nat, (j : Int) < n.toInt → 0 ≤ (S j).toInt ∧ (S j).toInt < jdir g.toInt) → (jrv g.toInt (fun q => (S q).toInt) n.toInt.toNat X Y Z) → (jav g.toInt (fun q => (S q).toInt) n.toInt.toNat) → (8 - x2.toInt).toNat < K → jTot tS mX1_countForms d [.ref a0, .int x1, .int x2] V0 0 0 (fun r V => (jPost [.inr 1, .inl 6, .inl 34, .inl 35, .inl 36] V0 (fun r _ => ∃ y : Int32, r = some (.int y) ∧ ((-2147483648) ≤ y.toInt) ∧ (y.toInt ≤ 2147483647) ∧ (y.toInt = ((jfc g.toInt x1.toInt.toNat (x1.toInt - x2.toInt).toNat (fun q => (S q).toInt) : Nat) : Int)))) r V ∧ (∃ S2 X2 Y2 Z2 : Nat → Int32, V s = some (.inl (6, 120, .inl S2)) ∧ V xx = some (.inl (34, 121, .inl X2)) ∧ V yy = some (.inl (35, 121, .inl Y2)) ∧ V zz = some (.inl (36, 121, .inl Z2)) ∧ (∀ j : Nat, (j : Int) < n.toInt → S2 j = S j) ∧ ∀ j : Nat, (j : Int) ≤ n.toInt → X2 j = X j ∧ Y2 j = Y j ∧ Z2 j = Z j) ∧ jrk a0 V0 V ∧ jfp [a0, s, xx, yy, zz] V0 V ∧ (∃ n2 : Int32, jfI V a0 1 6 n2 ∧ (n2.toInt = n.toInt)) ∧ (∃ M2 : Int32, jfI V a0 1 0 M2 ∧ (M2.toInt = M.toInt)) ∧ (∃ g2 : Int32, jfI V a0 1 5 g2 ∧ (g2.toInt = g.toInt))) := by
  intro K
  induction K with
  | zero => intro d V0 a0 x1 x2 M g n s xx yy zz S X Y Z hd hW ha0 hl2 hh2 hf_M hf_g hf_n hr_s hr_xx hr_yy hr_zz ha_S ha_X ha_Y ha_Z hp0 hp1 hp2 hp3 hp4 hp5 hp6 hp7 hp8 hrk; exact absurd hrk (Nat.not_lt_zero _)
  | succ K IH =>
  intro d V0 a0 x1 x2 M g n s xx yy zz S X Y Z hd hW ha0 hl2 hh2 hf_M hf_g hf_n hr_s hr_xx hr_yy hr_zz ha_S ha_X ha_Y ha_Z hp0 hp1 hp2 hp3 hp4 hp5 hp6 hp7 hp8 hrk
  refine jTot.of_J [some (.ref a0), some (.int x1), some (.int x2), none, none] moX1_countForms (Nat.le_of_ble_eq_true rfl) rfl ?_
  have hrx1 := j_rng x1
  have he : jeff [.inr 1, .inl 6, .inl 34, .inl 35, .inl 36] V0 V0 := jeff.refl _ _
  have hfp : jfp [a0, s, xx, yy, zz] V0 V0 := jfp.rf
  obtain ⟨fs_a0, hO_a0, hK_a0⟩ := WT_obj hW id ha0
  have hF_M := hf_M.get hO_a0
  have hrM : 0 ≤ M.toInt ∧ M.toInt ≤ 120 := jok_rngI hK_a0 rfl hF_M
  have hF_g := hf_g.get hO_a0
  have hrg : (-2147483648) ≤ g.toInt ∧ g.toInt ≤ 2147483647 := jok_rngI hK_a0 rfl hF_g
  have hF_n := hf_n.get hO_a0
  have hrn : 0 ≤ n.toInt ∧ n.toInt ≤ 120 := jok_rngI hK_a0 rfl hF_n
  have hF_s := hr_s.get hO_a0
  obtain ⟨w_s, hFq_s, b_s, hbq_s, hb_s⟩ := hK_a0.2 1 (.inr (some (.inl 6))) rfl
  cases hF_s.symm.trans (hFq_s.trans (congrArg some hbq_s))
  have hF_xx := hr_xx.get hO_a0
  obtain ⟨w_xx, hFq_xx, b_xx, hbq_xx, hb_xx⟩ := hK_a0.2 2 (.inr (some (.inl 34))) rfl
  cases hF_xx.symm.trans (hFq_xx.trans (congrArg some hbq_xx))
  have hF_yy := hr_yy.get hO_a0
  obtain ⟨w_yy, hFq_yy, b_yy, hbq_yy, hb_yy⟩ := hK_a0.2 3 (.inr (some (.inl 35))) rfl
  cases hF_yy.symm.trans (hFq_yy.trans (congrArg some hbq_yy))
  have hF_zz := hr_zz.get hO_a0
  obtain ⟨w_zz, hFq_zz, b_zz, hbq_zz, hb_zz⟩ := hK_a0.2 4 (.inr (some (.inl 36))) rfl
  cases hF_zz.symm.trans (hFq_zz.trans (congrArg some hbq_zz))
  obtain ⟨hN_S, hv_S⟩ := WT_rngI (r := ((-2147483648), 2147483647)) hW id rfl ha_S
  clear hN_S
  obtain ⟨hN_X, hv_X⟩ := WT_rngI (r := ((-2147483648), 2147483647)) hW id rfl ha_X
  clear hN_X
  obtain ⟨hN_Y, hv_Y⟩ := WT_rngI (r := ((-2147483648), 2147483647)) hW id rfl ha_Y
  clear hN_Y
  obtain ⟨hN_Z, hv_Z⟩ := WT_rngI (r := ((-2147483648), 2147483647)) hW id rfl ha_Z
  clear hN_Z
  have ha0_S := ha_S
  have ha0_X := ha_X
  have ha0_Y := ha_Y
  have ha0_Z := ha_Z
  have hjb : 3 ≤ jdir g.toInt ∧ jdir g.toInt ≤ 6 := by have q := jdir_cases g.toInt; omega
  refine J_iload_n dX1_countForms_0 rfl ?_
  refine J_iload_n dX1_countForms_1 rfl ?_
  refine Jz_icmp_ge (tgt := 11) jEq.rf jEq.rf dX1_countForms_2 (by decide) (fun c2 => ?_) (fun c2 => ?_)
  · refine J_aload_n dX1_countForms_11 rfl ?_
    refine J_callS1 moX1_isOwnForm jw_ml_X1_61 jw_st_X1_isOwnForm dX1_countForms_12 (w_X1_isOwnForm_z (d - 1) _ a0 M g n s xx yy zz S X Y Z (by omega) hW  ha0 ⟨_, hO_a0, hF_M⟩ ⟨_, hO_a0, hF_g⟩ ⟨_, hO_a0, hF_n⟩ ⟨_, hO_a0, hF_s⟩ ⟨_, hO_a0, hF_xx⟩ ⟨_, hO_a0, hF_yy⟩ ⟨_, hO_a0, hF_zz⟩ ha_S ha_X ha_Y ha_Z (by omega) (by omega) (by omega) (by omega) (by omega) hp6 (by omega)) (by omega) (Nat.zero_le _) (Nat.zero_le _) (Nat.le_of_ble_eq_true rfl) (fun r12 V12 h12 => ?_)
    obtain ⟨⟨y12, rfl, hl12, hh12, hP12_0⟩, hE12⟩ := h12
    have hE12 := hE12.symm
    subst hE12
    refine Jz_if_eq (tgt := 22) jEq.rf dX1_countForms_15 (by decide) (fun c15 => ?_) (fun c15 => ?_)
    · refine Jz_iconst 0 dX1_countForms_22 (by decide) (fun y22 he22 => ?_)
      exact J_ret (r := some (.int _)) dX1_countForms_23 ⟨rfl, _, rfl, rfl⟩ (⟨⟨hW, he, ⟨_, rfl, (j_rng _).1, (j_rng _).2, (by have q := hP12_0.elim (fun q => absurd q.1 (by omega)) (fun q => q.2); rw [show n.toInt.toNat = x1.toInt.toNat by omega] at q; rw [he22.eq, show (x1.toInt - x2.toInt).toNat = 0 by omega, jfc_0, jone_no q]; rfl)⟩⟩, ⟨S, X, Y, Z, ha_S, ha_X, ha_Y, ha_Z, fun _ _ => rfl, fun _ _ => ⟨rfl, rfl, rfl⟩⟩, (jrk.mk hr_s hr_xx hr_yy hr_zz hfp hf_M ⟨_, hO_a0, hF_M⟩ (jk1.mk ha0_S ha_S) (jk0.mk ha0_X ha_X rfl) (jk0.mk ha0_Y ha_Y rfl) (jk0.mk ha0_Z ha_Z rfl)), hfp, ⟨_, ⟨_, hO_a0, hF_n⟩, (by omega)⟩, ⟨_, ⟨_, hO_a0, hF_M⟩, (by omega)⟩, ⟨_, ⟨_, hO_a0, hF_g⟩, (by omega)⟩⟩)
    · refine Jz_iconst 1 dX1_countForms_18 (by decide) (fun y18 he18 => ?_)
      refine J_goto (tgt := 23) dX1_countForms_19 (by decide) ?_
      exact J_ret (r := some (.int _)) dX1_countForms_23 ⟨rfl, _, rfl, rfl⟩ (⟨⟨hW, he, ⟨_, rfl, (j_rng _).1, (j_rng _).2, (by have q := hP12_0.elim (fun q => q.2) (fun q => absurd q.1 (by omega)); rw [show n.toInt.toNat = x1.toInt.toNat by omega] at q; rw [he18.eq, show (x1.toInt - x2.toInt).toNat = 0 by omega, jfc_0, jone_yes q]; rfl)⟩⟩, ⟨S, X, Y, Z, ha_S, ha_X, ha_Y, ha_Z, fun _ _ => rfl, fun _ _ => ⟨rfl, rfl, rfl⟩⟩, (jrk.mk hr_s hr_xx hr_yy hr_zz hfp hf_M ⟨_, hO_a0, hF_M⟩ (jk1.mk ha0_S ha_S) (jk0.mk ha0_X ha_X rfl) (jk0.mk ha0_Y ha_Y rfl) (jk0.mk ha0_Z ha_Z rfl)), hfp, ⟨_, ⟨_, hO_a0, hF_n⟩, (by omega)⟩, ⟨_, ⟨_, hO_a0, hF_M⟩, (by omega)⟩, ⟨_, ⟨_, hO_a0, hF_g⟩, (by omega)⟩⟩)
  · refine J_iload_n dX1_countForms_5 rfl ?_
    refine Jz_bipush 7 dX1_countForms_6 (by decide) (fun y6 he6 => ?_)
    refine Jz_icmp_lt (tgt := 24) jEq.rf he6 dX1_countForms_8 (by decide) (fun c8 => ?_) (fun c8 => (show False by omega).elim)
    refine Jz_iconst 0 dX1_countForms_24 (by decide) (fun y24 he24 => ?_)
    refine J_istore_n dX1_countForms_25 rfl (by decide) ?_
    refine Jz_iconst 0 dX1_countForms_26 (by decide) (fun y26 he26 => ?_)
    refine J_istore dX1_countForms_27 rfl (by decide) ?_
    have L29 : ∀ (N : Nat) (V : jH) (i3n29 : Int32) (i4n29 : Int32) (gs29a0 : List Value) (g6n29 : Int32) (F6n29 : Nat → Int32) (F34n29 : Nat → Int32) (F35n29 : Nat → Int32) (F36n29 : Nat → Int32), WT V → jeff [.inr 1, .inl 6, .inl 34, .inl 35, .inl 36] V0 V → (jis V (.inr 1) a0) → (jis V (.inl 6) s) → (jis V (.inl 34) xx) → (jis V (.inl 35) yy) → (jis V (.inl 36) zz) → (jfp [a0, s, xx, yy, zz] V0 V) → (V a0 = some (.inr (1, gs29a0))) → (gs29a0[0]? = some (.int M)) → (gs29a0[5]? = some (.int g)) → (gs29a0[6]? = some (.int g6n29)) → (gs29a0[1]? = some (.ref s)) → (gs29a0[2]? = some (.ref xx)) → (gs29a0[3]? = some (.ref yy)) → (gs29a0[4]? = some (.ref zz)) → (V s = some (.inl (6, 120, .inl F6n29))) → (V xx = some (.inl (34, 121, .inl F34n29))) → (V yy = some (.inl (35, 121, .inl F35n29))) → (V zz = some (.inl (36, 121, .inl F36n29))) → (0 ≤ i4n29.toInt ∧ i4n29.toInt ≤ jdir g.toInt) → (g6n29.toInt = x2.toInt) → (∀ j : Nat, (j : Int) < x2.toInt → F6n29 j = S j) → (∀ j : Nat, (j : Int) ≤ x2.toInt → F34n29 j = X j ∧ F35n29 j = Y j ∧ F36n29 j = Z j) → (i3n29.toInt = ((jsu (jfd g.toInt x1.toInt.toNat (x1.toInt - x2.toInt - 1).toNat x2.toInt.toNat (fun q => (S q).toInt)) i4n29.toInt.toNat : Nat) : Int)) → (300 - i4n29.toInt).toNat < N → J tS mX1_countForms d 29 [some (.ref a0), some (.int x1), some (.int x2), some (.int i3n29), some (.int i4n29)] [] V 0 0 (fun r V => (jPost [.inr 1, .inl 6, .inl 34, .inl 35, .inl 36] V0 (fun r _ => ∃ y : Int32, r = some (.int y) ∧ ((-2147483648) ≤ y.toInt) ∧ (y.toInt ≤ 2147483647) ∧ (y.toInt = ((jfc g.toInt x1.toInt.toNat (x1.toInt - x2.toInt).toNat (fun q => (S q).toInt) : Nat) : Int)))) r V ∧ (∃ S2 X2 Y2 Z2 : Nat → Int32, V s = some (.inl (6, 120, .inl S2)) ∧ V xx = some (.inl (34, 121, .inl X2)) ∧ V yy = some (.inl (35, 121, .inl Y2)) ∧ V zz = some (.inl (36, 121, .inl Z2)) ∧ (∀ j : Nat, (j : Int) < n.toInt → S2 j = S j) ∧ ∀ j : Nat, (j : Int) ≤ n.toInt → X2 j = X j ∧ Y2 j = Y j ∧ Z2 j = Z j) ∧ jrk a0 V0 V ∧ jfp [a0, s, xx, yy, zz] V0 V ∧ (∃ n2 : Int32, jfI V a0 1 6 n2 ∧ (n2.toInt = n.toInt)) ∧ (∃ M2 : Int32, jfI V a0 1 0 M2 ∧ (M2.toInt = M.toInt)) ∧ (∃ g2 : Int32, jfI V a0 1 5 g2 ∧ (g2.toInt = g.toInt))) := by
      intro N
      induction N with
      | zero => intro V i3n29 i4n29 gs29a0 g6n29 F6n29 F34n29 F35n29 F36n29 hW he ha0 hb_s hb_xx hb_yy hb_zz hfp hOgs29a0 hFgs29a0_0 hFgs29a0_5 hFgs29a0_6 hFgs29a0_1 hFgs29a0_2 hFgs29a0_3 hFgs29a0_4 hAF6n29 hAF34n29 hAF35n29 hAF36n29 hi4 hsz hS hXYZ hfd hm; exact absurd hm (Nat.not_lt_zero _)
      | succ N ih =>
        intro V i3n29 i4n29 gs29a0 g6n29 F6n29 F34n29 F35n29 F36n29 hW he ha0 hb_s hb_xx hb_yy hb_zz hfp hOgs29a0 hFgs29a0_0 hFgs29a0_5 hFgs29a0_6 hFgs29a0_1 hFgs29a0_2 hFgs29a0_3 hFgs29a0_4 hAF6n29 hAF34n29 hAF35n29 hAF36n29 hi4 hsz hS hXYZ hfd hm
        have ih29 := ih
        have hri4 := j_rng i4n29
        have hKgs29a0 : jokO V (jFs 1) gs29a0 := hW _ _ id hOgs29a0
        have hrgg6n29 : 0 ≤ g6n29.toInt ∧ g6n29.toInt ≤ 120 := jok_rngI hKgs29a0 rfl hFgs29a0_6
        obtain ⟨hNF6n29, hvF6n29⟩ := WT_rngI (r := ((-2147483648), 2147483647)) hW id rfl hAF6n29
        clear hNF6n29
        obtain ⟨hNF34n29, hvF34n29⟩ := WT_rngI (r := ((-2147483648), 2147483647)) hW id rfl hAF34n29
        clear hNF34n29
        obtain ⟨hNF35n29, hvF35n29⟩ := WT_rngI (r := ((-2147483648), 2147483647)) hW id rfl hAF35n29
        clear hNF35n29
        obtain ⟨hNF36n29, hvF36n29⟩ := WT_rngI (r := ((-2147483648), 2147483647)) hW id rfl hAF36n29
        clear hNF36n29
        refine J_iload dX1_countForms_29 rfl ?_
        refine J_aload_n dX1_countForms_31 rfl ?_
        refine J_get jf_X1_23 dX1_countForms_32 hOgs29a0 hFgs29a0_5 ?_
        refine J_callS1 moX0_directions jw_ml_X1_65 jw_st_X0_directions dX1_countForms_35 (w_X0_directions_z (d - 1) _ g (by omega)   ) (by omega) (Nat.zero_le _) (Nat.zero_le _) (Nat.le_of_ble_eq_true rfl) (fun r35 V35 h35 => ?_)
        obtain ⟨⟨y35, rfl, hl35, hh35, hP35_0⟩, hE35⟩ := h35
        have hE35 := hE35.symm
        subst hE35
        have hz35 : jEq y35.toInt (jdir (g.toInt)) := hP35_0
        simp only [hP35_0] at hl35 hh35
        clear hP35_0
        refine Jz_icmp_ge (tgt := 72) jEq.rf hz35 dX1_countForms_38 (by decide) (fun c38 => ?_) (fun c38 => ?_)
        · refine J_iload_n dX1_countForms_72 rfl ?_
          exact J_ret (r := some (.int _)) dX1_countForms_73 ⟨rfl, _, rfl, rfl⟩ (⟨⟨hW, he, ⟨_, rfl, (j_rng _).1, (j_rng _).2, (by rw [hfd, show i4n29.toInt.toNat = (jdir g.toInt).toNat by omega, show (x1.toInt - x2.toInt).toNat = (x1.toInt - x2.toInt - 1).toNat + 1 by omega, jfc_step2 (N := x2.toInt.toNat) (by omega)])⟩⟩, ⟨F6n29, F34n29, F35n29, F36n29, hAF6n29, hAF34n29, hAF35n29, hAF36n29, fun j hj => hS j (by omega), fun j hj => hXYZ j (by omega)⟩, (jrk.mk hr_s hr_xx hr_yy hr_zz hfp hf_M ⟨_, hOgs29a0, hFgs29a0_0⟩ (jk1.mk ha0_S hAF6n29) (jk0.mk ha0_X hAF34n29 ((hXYZ 0 (by omega)).1)) (jk0.mk ha0_Y hAF35n29 ((hXYZ 0 (by omega)).2.1)) (jk0.mk ha0_Z hAF36n29 ((hXYZ 0 (by omega)).2.2))), hfp, ⟨_, ⟨_, hOgs29a0, hFgs29a0_6⟩, (by omega)⟩, ⟨_, ⟨_, hOgs29a0, hFgs29a0_0⟩, (by omega)⟩, ⟨_, ⟨_, hOgs29a0, hFgs29a0_5⟩, (by omega)⟩⟩)
        · refine J_aload_n dX1_countForms_41 rfl ?_
          refine J_iload dX1_countForms_42 rfl ?_
          have hN9 : g6n29.toInt.toNat = x2.toInt.toNat := by rw [hsz]
          have hjv2 : jrv g.toInt (fun q => (F6n29 q).toInt) g6n29.toInt.toNat F34n29 F35n29 F36n29 := jrv.copy hp7 (by omega) (fun q hq => (congrArg Int32.toInt (hS q (by omega))).symm) (fun i hi => hXYZ i (by omega))
          have hja2 : jav g.toInt (fun q => (F6n29 q).toInt) g6n29.toInt.toNat := by
            rw [show g6n29.toInt.toNat = n.toInt.toNat by omega]
            exact hp8.congr (fun q hq => (congrArg Int32.toInt (hS q (by omega))).symm)
          have hbx := hjv2.b g6n29.toInt.toNat (Nat.le_refl _)
          have e2 : ((i4n29.toInt.toNat : Nat) : Int) = i4n29.toInt := Int.toNat_of_nonneg (by omega)
          by_cases hcc : jav g.toInt (jsat (fun q => (F6n29 q).toInt) g6n29.toInt.toNat i4n29.toInt) (g6n29.toInt.toNat + 1)
          · refine Jw_callV1 (q9 := (RX3, TX3, 7)) moX3_lay jw_ml_X1_68 jw_im_X3_lay jw_se_X3_lay ha0 rfl rfl dX1_countForms_44 (w_X3_lay_yes (d - 1) _ a0 i4n29 M g g6n29 s xx yy zz F6n29 F34n29 F35n29 F36n29 (by omega) hW  ha0 ⟨_, hOgs29a0, hFgs29a0_0⟩ ⟨_, hOgs29a0, hFgs29a0_5⟩ ⟨_, hOgs29a0, hFgs29a0_6⟩ ⟨_, hOgs29a0, hFgs29a0_1⟩ ⟨_, hOgs29a0, hFgs29a0_2⟩ ⟨_, hOgs29a0, hFgs29a0_3⟩ ⟨_, hOgs29a0, hFgs29a0_4⟩ hAF6n29 hAF34n29 hAF35n29 hAF36n29 (by omega) (by omega) (by omega) (by omega) (by omega) (by omega) (by omega) (by omega) (by omega) (by omega) (by omega) (by omega) (by omega) (by omega) (fun j hj => (jnx_iff hjv2 hja2).mpr hcc j (by omega))) (by omega) (Nat.zero_le _) (Nat.zero_le _) (Nat.le_of_ble_eq_true rfl) (fun r44 V44 h44 => ?_)
            obtain ⟨h44, hX44_0, hX44_1, hX44_2, hX44_3, hX44_4, ⟨fv44_0, hfv44_0, hfp44_0⟩, ⟨fv44_1, hfv44_1, hfp44_1⟩, ⟨fv44_2, hfv44_2, hfp44_2⟩⟩ := h44
            obtain ⟨hW, hx44, hr44⟩ := h44
            have he := he.trans (hx44.sub (jsub_of rfl))
            have hfp := hfp.trans (hX44_4.sub (fun b hb => by simp only [List.mem_cons, List.not_mem_nil, or_false] at hb ⊢; first | (rcases hb with h9 | h9 | h9 | h9 | h9 <;> simp only [h9, true_or, or_true]) | omega))
            have ha0 := ha0.mono hx44.1
            have hb_s := hb_s.mono hx44.1
            have hb_xx := hb_xx.mono hx44.1
            have hb_yy := hb_yy.mono hx44.1
            have hb_zz := hb_zz.mono hx44.1
            obtain ⟨fs44a0, hOfs44a0, hRfs44a0⟩ := hx44.1.keep hOgs29a0
            have hKfs44a0 : jokO _ (jFs 1) fs44a0 := hW _ _ id hOfs44a0
            have hFfs44a0_1 := hRfs44a0 _ _ hFgs29a0_1
            have hFfs44a0_2 := hRfs44a0 _ _ hFgs29a0_2
            have hFfs44a0_3 := hRfs44a0 _ _ hFgs29a0_3
            have hFfs44a0_4 := hRfs44a0 _ _ hFgs29a0_4
            obtain ⟨y44, rfl, hl44, hh44, hP44_0⟩ := hr44
            have hFv44_0 := hfv44_0.get hOfs44a0
            have hzf44_0 : jEq fv44_0.toInt ((g6n29.toInt) + 1) := hfp44_0
            clear hfp44_0
            have hFv44_1 := hfv44_1.get hOfs44a0
            have hsb44_1 : M = fv44_1 := (jI_inj.mp hfp44_1).symm
            subst hsb44_1
            have hFv44_2 := hfv44_2.get hOfs44a0
            have hsb44_2 : g = fv44_2 := (jI_inj.mp hfp44_2).symm
            subst hsb44_2
            obtain ⟨S44, hS44, hSn44, hSo44⟩ := hX44_0
            obtain ⟨X44, hXa44, hXn44, hXo44⟩ := hX44_1
            obtain ⟨Y44, hYa44, hYn44, hYo44⟩ := hX44_2
            obtain ⟨Z44, hZa44, hZn44, hZo44⟩ := hX44_3
            have hlk := jlay_ok hjv2 hSn44 hSo44 hXn44 hYn44 hZn44 hXo44 hYo44 hZo44
            have hsq : ∀ q : Nat, q < x2.toInt.toNat + 1 → jsat (fun q => (S q).toInt) x2.toInt.toNat i4n29.toInt q = (S44 q).toInt := fun q hq => by
              by_cases c : q = x2.toInt.toNat
              · rw [c, jsat_at, ← hN9, hSn44]
              · rw [jsat_ne c]
                show (S q).toInt = (S44 q).toInt
                rw [hSo44 q (by omega), hS q (by omega)]
            have hjc : jav g.toInt (jsat (fun q => (S q).toInt) x2.toInt.toNat i4n29.toInt) (x2.toInt.toNat + 1) := by
              have q := hcc
              rw [hN9] at q
              exact q.congr (jsat_congr (fun q hq => congrArg Int32.toInt (hS q (by omega))))
            obtain ⟨hN_S44, hv_S44⟩ := WT_rngI (r := ((-2147483648), 2147483647)) hW id rfl hS44
            clear hN_S44
            obtain ⟨hN_X44, hv_X44⟩ := WT_rngI (r := ((-2147483648), 2147483647)) hW id rfl hXa44
            clear hN_X44
            obtain ⟨hN_Y44, hv_Y44⟩ := WT_rngI (r := ((-2147483648), 2147483647)) hW id rfl hYa44
            clear hN_Y44
            obtain ⟨hN_Z44, hv_Z44⟩ := WT_rngI (r := ((-2147483648), 2147483647)) hW id rfl hZa44
            clear hN_Z44
            refine Jz_if_eq (tgt := 66) jEq.rf dX1_countForms_47 (by decide) (fun c47 => (show False by omega).elim) (fun c47 => ?_)
            refine J_iload_n dX1_countForms_50 rfl ?_
            refine J_aload_n dX1_countForms_51 rfl ?_
            refine J_iload_n dX1_countForms_52 rfl ?_
            refine J_iload_n dX1_countForms_53 rfl ?_
            refine Jz_iconst 1 dX1_countForms_54 (by decide) (fun y54 he54 => ?_)
            refine Jz_iadd jEq.rf he54 dX1_countForms_55 (by omega) (by omega) (fun y55 he55 => ?_)
            refine J_callS3 moX1_countForms jw_ml_X1_72 jw_st_X1_countForms dX1_countForms_56 (IH (d - 1) _ a0 x1 y55 M g fv44_0 s xx yy zz S44 X44 Y44 Z44 (by omega) hW ha0 (by (try simp only [he55.eq, true_and, and_true]) <;> omega) (by (try simp only [he55.eq, true_and, and_true]) <;> omega) ⟨_, hOfs44a0, hFv44_1⟩ ⟨_, hOfs44a0, hFv44_2⟩ ⟨_, hOfs44a0, hFv44_0⟩ ⟨_, hOfs44a0, hFfs44a0_1⟩ ⟨_, hOfs44a0, hFfs44a0_2⟩ ⟨_, hOfs44a0, hFfs44a0_3⟩ ⟨_, hOfs44a0, hFfs44a0_4⟩ hS44 hXa44 hYa44 hZa44 (by omega) (by omega) (by omega) (by rw [hzf44_0.eq, he55.eq]; omega) (by rw [he55.eq]; omega) (by omega) (fun j hj => by rw [hzf44_0.eq] at hj; rw [← hsq j (by omega)]; by_cases c : j = x2.toInt.toNat; (rw [c, jsat_at]; exact ⟨by omega, by omega⟩); (rw [jsat_ne c]; exact hp6 j (by omega))) (by rw [hzf44_0.eq, show (g6n29.toInt + 1).toNat = g6n29.toInt.toNat + 1 by omega]; exact hlk.1) (by rw [hzf44_0.eq, show (g6n29.toInt + 1).toNat = x2.toInt.toNat + 1 by omega]; exact hjc.congr hsq) (by (try simp only [he55.eq, hzf44_0.eq, true_and, and_true]) <;> omega)) (by omega) (Nat.zero_le _) (Nat.zero_le _) (Nat.le_of_ble_eq_true rfl) (fun r56 V56 h56 => ?_)
            obtain ⟨h56, hX56_0, hX56_1, hX56_2, ⟨fv56_0, hfv56_0, hfp56_0⟩, ⟨fv56_1, hfv56_1, hfp56_1⟩, ⟨fv56_2, hfv56_2, hfp56_2⟩⟩ := h56
            obtain ⟨hW, hx56, hr56⟩ := h56
            have he := he.trans (hx56.sub (jsub_of rfl))
            have hfp := hfp.trans (hX56_2.sub (fun b hb => by simp only [List.mem_cons, List.not_mem_nil, or_false] at hb ⊢; first | (rcases hb with h9 | h9 | h9 | h9 | h9 <;> simp only [h9, true_or, or_true]) | omega))
            have ha0 := ha0.mono hx56.1
            have hb_s := hb_s.mono hx56.1
            have hb_xx := hb_xx.mono hx56.1
            have hb_yy := hb_yy.mono hx56.1
            have hb_zz := hb_zz.mono hx56.1
            obtain ⟨fs56a0, hOfs56a0, hRfs56a0⟩ := hx56.1.keep hOfs44a0
            have hKfs56a0 : jokO _ (jFs 1) fs56a0 := hW _ _ id hOfs56a0
            have hFfs56a0_1 := hRfs56a0 _ _ hFfs44a0_1
            have hFfs56a0_2 := hRfs56a0 _ _ hFfs44a0_2
            have hFfs56a0_3 := hRfs56a0 _ _ hFfs44a0_3
            have hFfs56a0_4 := hRfs56a0 _ _ hFfs44a0_4
            obtain ⟨y56, rfl, hl56, hh56, hP56_0⟩ := hr56
            clear hl56 hh56
            try simp only [he55.eq, hzf44_0.eq] at hP56_0
            have hFv56_0 := hfv56_0.get hOfs56a0
            try simp only [he55.eq, hzf44_0.eq] at hfp56_0
            have hzf56_0 : jEq fv56_0.toInt (((g6n29.toInt) + 1)) := hfp56_0
            clear hfp56_0
            have hFv56_1 := hfv56_1.get hOfs56a0
            try simp only [he55.eq, hzf44_0.eq] at hfp56_1
            have hsb56_1 : M = fv56_1 := (jI_inj.mp hfp56_1).symm
            subst hsb56_1
            have hFv56_2 := hfv56_2.get hOfs56a0
            try simp only [he55.eq, hzf44_0.eq] at hfp56_2
            have hsb56_2 : g = fv56_2 := (jI_inj.mp hfp56_2).symm
            subst hsb56_2
            obtain ⟨S56, X56, Y56, Z56, hSa56, hXa56, hYa56, hZa56, hSe56, hXe56⟩ := hX56_0
            have hfc : y56.toInt = (((jfd g.toInt x1.toInt.toNat (x1.toInt - x2.toInt - 1).toNat x2.toInt.toNat (fun q => (S q).toInt)) i4n29.toInt.toNat : Nat) : Int) := by
              rw [hP56_0, show (x1.toInt - (x2.toInt + 1)).toNat = (x1.toInt - x2.toInt - 1).toNat by omega, jfd_yes (by rw [e2]; exact hjc), e2]
              exact congrArg (fun z : Nat => (z : Int)) (jfc_congr (x1.toInt - x2.toInt - 1).toNat (fun q hq => (hsq q (by omega)).symm))
            have hb9 : 0 ≤ y56.toInt ∧ y56.toInt ≤ 46656 := by
              rw [hfc]
              have q := jfd_le (g := g.toInt) (n := x1.toInt.toNat) (k := (x1.toInt - x2.toInt - 1).toNat) (N := x2.toInt.toNat) (T := (fun q => (S q).toInt)) (d := i4n29.toInt.toNat) (by omega) (by omega)
              omega
            have hb8 : 0 ≤ i3n29.toInt ∧ i3n29.toInt ≤ 279936 := by
              rw [hfd]
              have q := jfd_sum (g := g.toInt) (n := x1.toInt.toNat) (k := (x1.toInt - x2.toInt - 1).toNat) (N := x2.toInt.toNat) (T := (fun q => (S q).toInt)) (c := i4n29.toInt.toNat) (by omega) (by omega) (by omega)
              omega
            obtain ⟨hN_S56, hv_S56⟩ := WT_rngI (r := ((-2147483648), 2147483647)) hW id rfl hSa56
            clear hN_S56
            obtain ⟨hN_X56, hv_X56⟩ := WT_rngI (r := ((-2147483648), 2147483647)) hW id rfl hXa56
            clear hN_X56
            obtain ⟨hN_Y56, hv_Y56⟩ := WT_rngI (r := ((-2147483648), 2147483647)) hW id rfl hYa56
            clear hN_Y56
            obtain ⟨hN_Z56, hv_Z56⟩ := WT_rngI (r := ((-2147483648), 2147483647)) hW id rfl hZa56
            clear hN_Z56
            refine Jz_iadd jEq.rf jEq.rf dX1_countForms_59 (by omega) (by omega) (fun y59 he59 => ?_)
            refine J_istore_n dX1_countForms_60 rfl (by decide) ?_
            refine J_aload_n dX1_countForms_61 rfl ?_
            refine Jz_iconst 1 dX1_countForms_62 (by decide) (fun y62 he62 => ?_)
            refine Jw_callV1 (q9 := (RX3, TX3, 7)) moX3_drop jw_ml_X1_76 jw_im_X3_drop jw_se_X3_drop ha0 rfl rfl dX1_countForms_63 (w_X3_drop_z (d - 1) _ a0 y62 M g fv56_0 (by omega) hW  ha0 ⟨_, hOfs56a0, hFv56_1⟩ ⟨_, hOfs56a0, hFv56_2⟩ ⟨_, hOfs56a0, hFv56_0⟩ (by (try simp only [he62.eq, true_and, and_true]) <;> omega) (by (try simp only [he62.eq, hzf56_0.eq, true_and, and_true]) <;> omega)) (by omega) (Nat.zero_le _) (Nat.zero_le _) (Nat.le_of_ble_eq_true rfl) (fun r63 V63 h63 => ?_)
            obtain ⟨h63, hX63_0, ⟨fv63_0, hfv63_0, hfp63_0⟩, ⟨fv63_1, hfv63_1, hfp63_1⟩, ⟨fv63_2, hfv63_2, hfp63_2⟩⟩ := h63
            obtain ⟨hW, hx63, hr63⟩ := h63
            have he := he.trans (hx63.sub (jsub_of rfl))
            have hfp := hfp.trans (hX63_0.sub (fun b hb => by simp only [List.mem_cons, List.not_mem_nil, or_false] at hb ⊢; first | (rcases hb with h9 <;> simp only [h9, true_or, or_true]) | omega))
            have ha0 := ha0.mono hx63.1
            have hb_s := hb_s.mono hx63.1
            have hb_xx := hb_xx.mono hx63.1
            have hb_yy := hb_yy.mono hx63.1
            have hb_zz := hb_zz.mono hx63.1
            obtain ⟨fs63a0, hOfs63a0, hRfs63a0⟩ := hx63.1.keep hOfs56a0
            have hKfs63a0 : jokO _ (jFs 1) fs63a0 := hW _ _ id hOfs63a0
            have hFfs63a0_1 := hRfs63a0 _ _ hFfs56a0_1
            have hFfs63a0_2 := hRfs63a0 _ _ hFfs56a0_2
            have hFfs63a0_3 := hRfs63a0 _ _ hFfs56a0_3
            have hFfs63a0_4 := hRfs63a0 _ _ hFfs56a0_4
            have hSa56 := hx63.2 _ _ hSa56 (jnot_of rfl)
            have hXa56 := hx63.2 _ _ hXa56 (jnot_of rfl)
            have hYa56 := hx63.2 _ _ hYa56 (jnot_of rfl)
            have hZa56 := hx63.2 _ _ hZa56 (jnot_of rfl)
            cases hr63
            have hFv63_0 := hfv63_0.get hOfs63a0
            try simp only [he62.eq, hzf56_0.eq] at hfp63_0
            have hsb63_0 : M = fv63_0 := (jI_inj.mp hfp63_0).symm
            subst hsb63_0
            have hFv63_1 := hfv63_1.get hOfs63a0
            try simp only [he62.eq, hzf56_0.eq] at hfp63_1
            have hsb63_1 : g = fv63_1 := (jI_inj.mp hfp63_1).symm
            subst hsb63_1
            have hFv63_2 := hfv63_2.get hOfs63a0
            try simp only [he62.eq, hzf56_0.eq] at hfp63_2
            have hzf63_2 : jEq fv63_2.toInt ((((g6n29.toInt) + 1)) - (1)) := hfp63_2
            clear hfp63_2
            refine Jz_iinc 1 dX1_countForms_66 rfl rfl (by decide) jEq.rf (by decide) (by omega) (by omega) (fun y66 he66 => ?_)
            refine J_goto (tgt := 29) dX1_countForms_69 (by decide) ?_
            refine J.mask [true, true, true, true, true] ?_
            exact ih29 _ y59 y66 fs63a0 fv63_2 S56 X56 Y56 Z56 hW he ha0 hb_s hb_xx hb_yy hb_zz hfp hOfs63a0 hFv63_0 hFv63_1 hFv63_2 hFfs63a0_1 hFfs63a0_2 hFfs63a0_3 hFfs63a0_4 hSa56 hXa56 hYa56 hZa56 (by (try simp only [he59.eq, he66.eq, hzf63_2.eq, true_and, and_true]) <;> omega) (by (try simp only [he59.eq, he66.eq, hzf63_2.eq, true_and, and_true]) <;> omega) (fun j hj => by rw [hSe56 j (by rw [hzf44_0.eq]; omega), hSo44 j (by omega)]; exact hS j hj) (fun j hj => by obtain ⟨q1, q2, q3⟩ := hXe56 j (by rw [hzf44_0.eq]; omega); rw [q1, q2, q3, hXo44 j (by omega), hYo44 j (by omega), hZo44 j (by omega)]; exact hXYZ j hj) (by rw [he59.eq, he66.eq, show (i4n29.toInt + 1).toNat = i4n29.toInt.toNat + 1 by omega, hfd, hfc]; exact (Int.natCast_add _ _).symm) (by (try simp only [he59.eq, he66.eq, hzf63_2.eq, true_and, and_true]) <;> omega)
          · refine Jw_callV1 (q9 := (RX3, TX3, 7)) moX3_lay jw_ml_X1_68 jw_im_X3_lay jw_se_X3_lay ha0 rfl rfl dX1_countForms_44 (w_X3_lay_no (d - 1) _ a0 i4n29 M g g6n29 s xx yy zz F6n29 F34n29 F35n29 F36n29 (by omega) hW  ha0 ⟨_, hOgs29a0, hFgs29a0_0⟩ ⟨_, hOgs29a0, hFgs29a0_5⟩ ⟨_, hOgs29a0, hFgs29a0_6⟩ ⟨_, hOgs29a0, hFgs29a0_1⟩ ⟨_, hOgs29a0, hFgs29a0_2⟩ ⟨_, hOgs29a0, hFgs29a0_3⟩ ⟨_, hOgs29a0, hFgs29a0_4⟩ hAF6n29 hAF34n29 hAF35n29 hAF36n29 (by omega) (by omega) (by omega) (by omega) (by omega) (by omega) (by omega) (by omega) (by omega) (by omega) (by omega) (by omega) (by omega) (Or.inr (Classical.byContradiction (fun z => hcc ((jnx_iff hjv2 hja2).mp (fun j hj q => z ⟨j, by omega, q⟩)))))) (by omega) (Nat.zero_le _) (Nat.zero_le _) (Nat.le_of_ble_eq_true rfl) (fun r44 V44 h44 => ?_)
            obtain ⟨⟨y44, rfl, hl44, hh44, hP44_0⟩, hE44⟩ := h44
            have hE44 := hE44.symm
            subst hE44
            have hjn : ¬ jav g.toInt (jsat (fun q => (S q).toInt) x2.toInt.toNat i4n29.toInt) (x2.toInt.toNat + 1) := fun z => hcc (by
              rw [hN9]
              exact z.congr (jsat_congr (fun q hq => (congrArg Int32.toInt (hS q (by omega))).symm)))
            refine Jz_if_eq (tgt := 66) jEq.rf dX1_countForms_47 (by decide) (fun c47 => ?_) (fun c47 => (show False by omega).elim)
            refine Jz_iinc 1 dX1_countForms_66 rfl rfl (by decide) jEq.rf (by decide) (by omega) (by omega) (fun y66 he66 => ?_)
            refine J_goto (tgt := 29) dX1_countForms_69 (by decide) ?_
            refine J.mask [true, true, true, true, true] ?_
            exact ih29 _ i3n29 y66 gs29a0 g6n29 F6n29 F34n29 F35n29 F36n29 hW he ha0 hb_s hb_xx hb_yy hb_zz hfp hOgs29a0 hFgs29a0_0 hFgs29a0_5 hFgs29a0_6 hFgs29a0_1 hFgs29a0_2 hFgs29a0_3 hFgs29a0_4 hAF6n29 hAF34n29 hAF35n29 hAF36n29 (by (try simp only [he66.eq, true_and, and_true]) <;> omega) (by (try simp only [he66.eq, true_and, and_true]) <;> omega) hS hXYZ (by rw [he66.eq, show (i4n29.toInt + 1).toNat = i4n29.toInt.toNat + 1 by omega, jsu_skip (jfd_no (by rw [e2]; exact hjn))]; exact hfd) (by (try simp only [he66.eq, true_and, and_true]) <;> omega)
    refine J.mask [true, true, true, true, true] ?_
    exact L29 _ _ y24 y26 fs_a0 n S X Y Z hW he ha0 hb_s hb_xx hb_yy hb_zz hfp hO_a0 hF_M hF_g hF_n hF_s hF_xx hF_yy hF_zz ha_S ha_X ha_Y ha_Z (by (try simp only [he24.eq, he26.eq, true_and, and_true]) <;> omega) (by (try simp only [he24.eq, he26.eq, true_and, and_true]) <;> omega) (fun _ _ => rfl) (fun _ _ => ⟨rfl, rfl, rfl⟩) (by rw [he24.eq, he26.eq]; rfl) (Nat.lt_succ_self _)
set_option maxRecDepth 100000 in
set_option maxHeartbeats 8000000 in
theorem w_X3_begin_zk {tS : jTS} (d : Nat) (V0 : jH) {l1 l2 l3 l4 : Nat} (a0 : Nat) (x1 : Int32) (M : Int32) (n : Int32) (s : Nat) (xx : Nat) (yy : Nat) (zz : Nat) (S : Nat → Int32) (X : Nat → Int32) (Y : Nat → Int32) (Z : Nat → Int32) (hd : 0 ≤ d) (hW : WT V0) (ha0 : jis V0 (.inr 1) a0) (hf_M : jfI V0 a0 1 0 M) (hf_n : jfI V0 a0 1 6 n) (hr_s : jfR V0 a0 1 1 s) (hr_xx : jfR V0 a0 1 2 xx) (hr_yy : jfR V0 a0 1 3 yy) (hr_zz : jfR V0 a0 1 4 zz) (ha_S : V0 s = some (.inl (6, l1, .inl S))) (ha_X : V0 xx = some (.inl (34, l2, .inl X))) (ha_Y : V0 yy = some (.inl (35, l3, .inl Y))) (ha_Z : V0 zz = some (.inl (36, l4, .inl Z))) : jTot tS mX3_begin d [.ref a0, .int x1] V0 0 0 (fun r V => (jPost [.inr 1] V0 rV) r V ∧ jrk a0 V0 V ∧ (∃ M2 : Int32, jfI V a0 1 0 M2 ∧ (M2.toInt = M.toInt)) ∧ (∃ g2 : Int32, jfI V a0 1 5 g2 ∧ (g2.toInt = x1.toInt)) ∧ (∃ n2 : Int32, jfI V a0 1 6 n2 ∧ (n2.toInt = 0))) := by
  refine jTot.of_J [some (.ref a0), some (.int x1)] moX3_begin (Nat.le_of_ble_eq_true rfl) rfl ?_
  have hrx1 := j_rng x1
  have he : jeff [.inr 1] V0 V0 := jeff.refl _ _
  have hfp : jfp [a0, s, xx, yy, zz] V0 V0 := jfp.rf
  obtain ⟨fs_a0, hO_a0, hK_a0⟩ := WT_obj hW id ha0
  have hF_M := hf_M.get hO_a0
  have hrM : 0 ≤ M.toInt ∧ M.toInt ≤ 120 := jok_rngI hK_a0 rfl hF_M
  have hF_n := hf_n.get hO_a0
  have hrn : 0 ≤ n.toInt ∧ n.toInt ≤ 120 := jok_rngI hK_a0 rfl hF_n
  have hF_s := hr_s.get hO_a0
  obtain ⟨w_s, hFq_s, b_s, hbq_s, hb_s⟩ := hK_a0.2 1 (.inr (some (.inl 6))) rfl
  cases hF_s.symm.trans (hFq_s.trans (congrArg some hbq_s))
  have hF_xx := hr_xx.get hO_a0
  obtain ⟨w_xx, hFq_xx, b_xx, hbq_xx, hb_xx⟩ := hK_a0.2 2 (.inr (some (.inl 34))) rfl
  cases hF_xx.symm.trans (hFq_xx.trans (congrArg some hbq_xx))
  have hF_yy := hr_yy.get hO_a0
  obtain ⟨w_yy, hFq_yy, b_yy, hbq_yy, hb_yy⟩ := hK_a0.2 3 (.inr (some (.inl 35))) rfl
  cases hF_yy.symm.trans (hFq_yy.trans (congrArg some hbq_yy))
  have hF_zz := hr_zz.get hO_a0
  obtain ⟨w_zz, hFq_zz, b_zz, hbq_zz, hb_zz⟩ := hK_a0.2 4 (.inr (some (.inl 36))) rfl
  cases hF_zz.symm.trans (hFq_zz.trans (congrArg some hbq_zz))
  obtain ⟨hN_S, hv_S⟩ := WT_rngI (r := ((-2147483648), 2147483647)) hW id rfl ha_S
  clear hN_S
  obtain ⟨hN_X, hv_X⟩ := WT_rngI (r := ((-2147483648), 2147483647)) hW id rfl ha_X
  clear hN_X
  obtain ⟨hN_Y, hv_Y⟩ := WT_rngI (r := ((-2147483648), 2147483647)) hW id rfl ha_Y
  clear hN_Y
  obtain ⟨hN_Z, hv_Z⟩ := WT_rngI (r := ((-2147483648), 2147483647)) hW id rfl ha_Z
  clear hN_Z
  have ha0_S := ha_S
  have ha0_X := ha_X
  have ha0_Y := ha_Y
  have ha0_Z := ha_Z
  refine J_aload_n dX3_begin_0 rfl ?_
  refine J_iload_n dX3_begin_1 rfl ?_
  refine Jz_putI hO_a0 hW id rfl jf_X3_9 jt_X3_5 jEq.rf dX3_begin_2 (j_rng _).1 (j_rng _).2 (fun _ _ => ⟨rfl, rfl⟩) (fun V2 fs2 hW hx2 hO2 hS2 hT2 hB2 => ?_)
  have hK2 : jokO _ (jFs 1) fs2 := hW _ _ id hO2
  have hF2_0 := (hT2 0 (by decide)).trans hF_M
  have hF2_6 := (hT2 6 (by decide)).trans hF_n
  have hF2_1 := (hT2 1 (by decide)).trans hF_s
  have hF2_2 := (hT2 2 (by decide)).trans hF_xx
  have hF2_3 := (hT2 3 (by decide)).trans hF_yy
  have hF2_4 := (hT2 4 (by decide)).trans hF_zz
  have he := he.trans (hx2.sub (jsub_of rfl))
  have hfp := hfp.trans (jfp.one hB2 List.mem_cons_self)
  have ha0 := ha0.mono hx2.1
  have hb_s := hb_s.mono hx2.1
  have hb_xx := hb_xx.mono hx2.1
  have hb_yy := hb_yy.mono hx2.1
  have hb_zz := hb_zz.mono hx2.1
  have ha_S := hx2.2 _ _ ha_S (jnot_of rfl)
  have ha_X := hx2.2 _ _ ha_X (jnot_of rfl)
  have ha_Y := hx2.2 _ _ ha_Y (jnot_of rfl)
  have ha_Z := hx2.2 _ _ ha_Z (jnot_of rfl)
  refine J_aload_n dX3_begin_5 rfl ?_
  refine Jz_iconst 0 dX3_begin_6 (by decide) (fun y6 he6 => ?_)
  refine Jz_putI hO2 hW id rfl jf_X3_15 jt_X3_6 he6 dX3_begin_7 (by omega) (by omega) (fun _ _ => ⟨rfl, rfl⟩) (fun V7 fs7 hW hx7 hO7 hS7 hT7 hB7 => ?_)
  have hK7 : jokO _ (jFs 1) fs7 := hW _ _ id hO7
  have hF7_5 := (hT7 5 (by decide)).trans hS2
  have hF7_0 := (hT7 0 (by decide)).trans hF2_0
  have hF7_1 := (hT7 1 (by decide)).trans hF2_1
  have hF7_2 := (hT7 2 (by decide)).trans hF2_2
  have hF7_3 := (hT7 3 (by decide)).trans hF2_3
  have hF7_4 := (hT7 4 (by decide)).trans hF2_4
  have he := he.trans (hx7.sub (jsub_of rfl))
  have hfp := hfp.trans (jfp.one hB7 List.mem_cons_self)
  have ha0 := ha0.mono hx7.1
  have hb_s := hb_s.mono hx7.1
  have hb_xx := hb_xx.mono hx7.1
  have hb_yy := hb_yy.mono hx7.1
  have hb_zz := hb_zz.mono hx7.1
  have ha_S := hx7.2 _ _ ha_S (jnot_of rfl)
  have ha_X := hx7.2 _ _ ha_X (jnot_of rfl)
  have ha_Y := hx7.2 _ _ ha_Y (jnot_of rfl)
  have ha_Z := hx7.2 _ _ ha_Z (jnot_of rfl)
  exact J_ret (r := none) dX3_begin_10 ⟨rfl, rfl⟩ (⟨⟨hW, he, rfl⟩, (jrk.mk hr_s hr_xx hr_yy hr_zz hfp hf_M ⟨_, hO7, hF7_0⟩ (jk1.mk ha0_S ha_S) (jk0.mk ha0_X ha_X rfl) (jk0.mk ha0_Y ha_Y rfl) (jk0.mk ha0_Z ha_Z rfl)), ⟨_, ⟨_, hO7, hF7_0⟩, (by omega)⟩, ⟨_, ⟨_, hO7, hF7_5⟩, (by omega)⟩, ⟨_, ⟨_, hO7, hS7⟩, (by (try simp only [he6.eq, true_and, and_true]) <;> omega)⟩⟩)
set_option maxRecDepth 100000 in
set_option maxHeartbeats 8000000 in
theorem w_X6_forms_zbad {tS : jTS} (d : Nat) (V0 : jH) (a0 : Nat) (x1 : Int32) (x2 : Int32) (hd : 28 ≤ d) (hW : WT V0) (ha0 : jis V0 (.inr 4) a0) (hbad : x1 < 0 ∨ Int32.ofNat 4 ≤ x1 ∨ x2 < 0 ∨ ¬ x2 ≤ 20) : jTot tS mX6_forms d [.ref a0, .int x1, .int x2] V0 0 0 (fun r V => (fun r _ => ∃ y : Int32, r = some (.int y) ∧ ((-2147483648) ≤ y.toInt) ∧ (y.toInt ≤ 2147483647) ∧ (y.toInt = -2)) r V ∧ V = V0) := by
  refine jTot.of_J [some (.ref a0), some (.int x1), some (.int x2), none] moX6_forms (Nat.le_of_ble_eq_true rfl) rfl ?_
  have hrx1 := j_rng x1
  have hrx2 := j_rng x2
  have he : jeff [] V0 V0 := jeff.refl _ _
  refine J_aload_n dX6_forms_0 rfl ?_
  refine J_iload_n dX6_forms_1 rfl ?_
  refine J_iload_n dX6_forms_2 rfl ?_
  refine Jz_iconst 0 dX6_forms_3 (by decide) (fun y3 he3 => ?_)
  refine Jw_callV3 (q9 := (RX6, TX6, 7)) moX6_tallyFor jw_ml_X6_149 jw_im_X6_tallyFor jw_se_X6_tallyFor ha0 rfl rfl dX6_forms_4 (w_X6_tallyFor_bad (d - 1) _ _ _ _ _ (by omega) hW ha0 (by rw [(jI_inj.mp (he3.eq.trans rfl) : y3 = 0)]; exact hbad)) (by omega) (Nat.zero_le _) (Nat.zero_le _) (Nat.le_of_ble_eq_true rfl) (fun r4 V4 h4 => ?_)
  obtain ⟨rfl, hE4⟩ := h4
  have hE4 := hE4.symm
  subst hE4
  · refine J_astore_nN dX6_forms_7 rfl (by decide) ?_
    refine J_aload_nN dX6_forms_8 rfl ?_
    refine J_ifnullN (tgt := 18) dX6_forms_9 (by decide) ?_
    refine Jz_bipush (-2) dX6_forms_18 (by decide) (fun y18 he18 => ?_)
    exact J_ret (r := some (.int _)) dX6_forms_20 ⟨rfl, _, rfl, rfl⟩ (⟨⟨_, rfl, (j_rng _).1, (j_rng _).2, (by (try simp only [he18.eq, true_and, and_true]) <;> omega)⟩, rfl⟩)
set_option maxRecDepth 100000 in
set_option maxHeartbeats 8000000 in
theorem w_X6_forms_zold {tS : jTS} (d : Nat) (V0 : jH) (a0 : Nat) (x1 : Int32) (x2 : Int32) (fs : List Value) (tl : Nat) (f : Nat → Option Nat) (j : Nat) (A : Nat → jad) (t : Nat) (tr : Nat) (MT : Int32) (gT : Int32) (nT : Int32) (sT : Nat) (xxT : Nat) (yyT : Nat) (zzT : Nat) (ST : Nat → Int32) (XT : Nat → Int32) (YT : Nat → Int32) (ZT : Nat → Int32) (hd : 28 ≤ d) (hW : WT V0) (ha0 : jis V0 (.inr 4) a0) (hx : V0 a0 = some (.inr (4, fs))) (h5 : fs[5]? = some (.ref tl)) (htl : V0 tl = some (.inl (5, 4, .inr (.inr (.inr (.inr f)))))) (hg : x1 = nI j) (hj : j < 4) (hb1 : ¬ x1 < 0) (hb2 : ¬ Int32.ofNat 4 ≤ x1) (hb3 : ¬ x2 < 0) (hb4 : x2 ≤ 20) (hf : f j = some t) (hty4 : ∀ j : Nat, j < 4 → f j = none ∨ ∃ t : Nat, f j = some t ∧ jty V0 t (A j) (j : Int)) (hA5 : ∀ i j : Nat, i < 4 → j < 4 → i ≠ j → f i ≠ none → f j ≠ none → jsp (A i) (A j)) (hf_MT : jfI V0 tr 1 0 MT) (hf_gT : jfI V0 tr 1 5 gT) (hf_nT : jfI V0 tr 1 6 nT) (hr_sT : jfR V0 tr 1 1 sT) (hr_xxT : jfR V0 tr 1 2 xxT) (hr_yyT : jfR V0 tr 1 3 yyT) (hr_zzT : jfR V0 tr 1 4 zzT) (ha_ST : V0 sT = some (.inl (6, 120, .inl ST))) (ha_XT : V0 xxT = some (.inl (34, 121, .inl XT))) (ha_YT : V0 yyT = some (.inl (35, 121, .inl YT))) (ha_ZT : V0 zzT = some (.inl (36, 121, .inl ZT))) (hm_tr : MT.toInt = 120) (hn_tr : nT.toInt ≤ 120) (hr_tr : jfR V0 a0 4 2 tr) (htf0 : jTF V0 a0) (hp0 : 0 ≤ x2.toInt) (hp1 : x2.toInt ≤ 20) (hp2 : (XT 0).toInt = 0) (hp3 : (YT 0).toInt = 0) (hp4 : (ZT 0).toInt = 0) : jTot tS mX6_forms d [.ref a0, .int x1, .int x2] V0 0 0 (fun r V => (jPost [.inr 2, .inl 1, .inl 2, .inl 8, .inl 37, .inl 38, .inr 1, .inl 6, .inl 34, .inl 35, .inl 36, .inl 13] V0 (fun r _ => ∃ y : Int32, r = some (.int y) ∧ ((-2147483648) ≤ y.toInt) ∧ (y.toInt ≤ 2147483647) ∧ ((7 < x2.toInt ∧ y.toInt = -2) ∨ (x2.toInt ≤ 7 ∧ (((600000 < jTT (j : Int) x2.toInt.toNat jL0 ∨ 3000 < (jrq (j : Int) x2.toInt.toNat).1) ∧ y.toInt = -5) ∨ (¬ (600000 < jTT (j : Int) x2.toInt.toNat jL0 ∨ 3000 < (jrq (j : Int) x2.toInt.toNat).1) ∧ y.toInt = ((jfo (j : Int) x2.toInt.toNat : Nat) : Int))))))) r V ∧ jTL V a0 ∧ jTF V a0 ∧ jrt a0 V0 V) := by
  refine jTot.of_J [some (.ref a0), some (.int x1), some (.int x2), none] moX6_forms (Nat.le_of_ble_eq_true rfl) rfl ?_
  have hrx1 := j_rng x1
  have hrx2 := j_rng x2
  have he : jeff [.inr 2, .inl 1, .inl 2, .inl 8, .inl 37, .inl 38, .inr 1, .inl 6, .inl 34, .inl 35, .inl 36, .inl 13] V0 V0 := jeff.refl _ _
  have hkr : jrt a0 V0 V0 := jrt.rf
  have hb30 := hb3
  have hKx : jokO V0 (jFs 4) fs := hW _ _ id hx
  have htlk : jis V0 (.inl 5) tl := ⟨_, htl, rfl⟩
  have hN4 : (4 : Nat) < 2 ^ 31 := by decide
  have hvt : ∀ (j b : Nat), j < 4 → f j = some b → jis V0 (.inr 2) b := by
    obtain ⟨n9, f9, h91, h92, h93, h94⟩ := WT_arrR hW id rfl htlk
    cases htl.symm.trans h91
    exact h94
  have hjj : ∀ j2 : Nat, x1 = nI j2 → j2 < 4 → j2 = j := fun j2 h1 h2 => by
    have h3 : x1.toNatClampNeg = j2 := by rw [h1]; exact nI_clamp (by omega)
    have h4 : x1.toNatClampNeg = j := by rw [hg]; exact nI_clamp (by omega)
    omega
  clear hN4
  have hx0 := hx
  have h50 := h5
  have htl0 := htl
  have hgj : x1.toInt = (j : Int) := by rw [hg]; exact nI_toInt (by omega)
  have ho : ∀ j2, x1 = nI j2 → j2 < 4 → ∃ t2, f j2 = some t2 := fun j2 h1 h2 => ⟨t, by rw [hjj j2 h1 h2]; exact hf⟩
  have hty : jty V0 t (A j) (j : Int) := (hty4 j hj).elim (fun q => by rw [q] at hf; cases hf) (fun ⟨t2, q1, q2⟩ => by cases q1.symm.trans hf; exact q2)
  obtain ⟨gv, R, sd, cd, tg, sp, ln, TK, WC, SQ, RC, BC, ⟨e1, e2, e3, e4⟩, ⟨⟨ts, hT, hF0⟩, i1, i2, i3, i4, i5⟩, ⟨r3, r4, r5, r6, r7⟩, ⟨d3, d4, d5, d6, d7⟩, htk, htal⟩ := id hty
  rw [← e1] at e2 e3 e4 htk htal
  have hF1 := i1.get hT
  have hF2 := i2.get hT
  have hF11 := i3.get hT
  have hF12 := i4.get hT
  have hF13 := i5.get hT
  have hF3 := r3.get hT
  have hF4 := r4.get hT
  have hF5 := r5.get hT
  have hF6 := r6.get hT
  have hF7 := r7.get hT
  have hbt : jis V0 (.inr 2) t := ⟨_, hT, rfl⟩
  have hKt : jokO V0 (jFs 2) ts := hW _ _ id hT
  have hbq3 : jis V0 (.inl 2) _ := ⟨_, d3, rfl⟩
  have hbq4 : jis V0 (.inl 8) _ := ⟨_, d4, rfl⟩
  have hbq5 : jis V0 (.inl 1) _ := ⟨_, d5, rfl⟩
  have hbq6 : jis V0 (.inl 37) _ := ⟨_, d6, rfl⟩
  have hbq7 : jis V0 (.inl 38) _ := ⟨_, d7, rfl⟩
  have hgq0 : 0 ≤ gv.toInt := by omega
  have hgq3 : gv.toInt ≤ 3 := by omega
  have hb_tr : jis V0 (.inr 1) tr := by obtain ⟨q1, q2, q3⟩ := hf_MT; exact ⟨_, q2, rfl⟩
  obtain ⟨fs_tr, hO_tr, hK_tr⟩ := WT_obj hW id hb_tr
  have hF_MT := hf_MT.get hO_tr
  have hrMT : 0 ≤ MT.toInt ∧ MT.toInt ≤ 120 := jok_rngI hK_tr rfl hF_MT
  have hF_gT := hf_gT.get hO_tr
  have hrgT : (-2147483648) ≤ gT.toInt ∧ gT.toInt ≤ 2147483647 := jok_rngI hK_tr rfl hF_gT
  have hF_nT := hf_nT.get hO_tr
  have hrnT : 0 ≤ nT.toInt ∧ nT.toInt ≤ 120 := jok_rngI hK_tr rfl hF_nT
  have hF_sT := hr_sT.get hO_tr
  have hb_sT : jis V0 (.inl 6) sT := ⟨_, ha_ST, rfl⟩
  obtain ⟨hN_ST, hv_ST⟩ := WT_rngI (r := (-2147483648, 2147483647)) hW id rfl ha_ST
  clear hN_ST
  have hF_xxT := hr_xxT.get hO_tr
  have hb_xxT : jis V0 (.inl 34) xxT := ⟨_, ha_XT, rfl⟩
  obtain ⟨hN_XT, hv_XT⟩ := WT_rngI (r := (-2147483648, 2147483647)) hW id rfl ha_XT
  clear hN_XT
  have hF_yyT := hr_yyT.get hO_tr
  have hb_yyT : jis V0 (.inl 35) yyT := ⟨_, ha_YT, rfl⟩
  obtain ⟨hN_YT, hv_YT⟩ := WT_rngI (r := (-2147483648, 2147483647)) hW id rfl ha_YT
  clear hN_YT
  have hF_zzT := hr_zzT.get hO_tr
  have hb_zzT : jis V0 (.inl 36) zzT := ⟨_, ha_ZT, rfl⟩
  obtain ⟨hN_ZT, hv_ZT⟩ := WT_rngI (r := (-2147483648, 2147483647)) hW id rfl ha_ZT
  clear hN_ZT
  have hF_tr := hr_tr.get hx
  obtain ⟨fo, FO, q8, d8, hfo8, hup⟩ := jTF.at1 htf0 hx h5 htl hj hf
  have hF8 := q8.get hT
  have hbfo : jis V0 (.inl 13) fo := ⟨_, d8, rfl⟩
  have hz0 := hp2
  have hz1 := hp3
  have hz2 := hp4
  have hjt0 : jTL V0 a0 := ⟨fs, tl, f, A, hx, h5, htl, hty4, hA5⟩
  refine J_aload_n dX6_forms_0 rfl ?_
  refine J_iload_n dX6_forms_1 rfl ?_
  refine J_iload_n dX6_forms_2 rfl ?_
  refine Jz_iconst 0 dX6_forms_3 (by decide) (fun y3 he3 => ?_)
  refine Jw_callV3 (q9 := (RX6, TX6, 7)) moX6_tallyFor jw_ml_X6_149 jw_im_X6_tallyFor jw_se_X6_tallyFor ha0 rfl rfl dX6_forms_4 (w_X6_tallyFor_old (d - 1) _ _ _ _ _ fs tl f (by omega) hW ha0 hx h5 htl ho hb1 hb2 (by rw [(jI_inj.mp (he3.eq.trans rfl) : y3 = 0)]; exact hb30) hb4) (by omega) (Nat.zero_le _) (Nat.zero_le _) (Nat.le_of_ble_eq_true rfl) (fun r4 V4 h4 => ?_)
  obtain ⟨hr4, hE4⟩ := h4
  have hE4 := hE4.symm
  subst hE4
  obtain ⟨j2, t2, hj2, hg2, ht2, rfl⟩ := hr4
  · have hj3 := (hjj j2 hg2 hj2).symm
    subst hj3
    have ht3 := Option.some.inj (hf.symm.trans ht2)
    subst ht3
    refine J_astore_n dX6_forms_7 rfl (by decide) ?_
    refine J_aload_n dX6_forms_8 rfl ?_
    refine J_ifnull dX6_forms_9 ?_
    refine J_iload_n dX6_forms_12 rfl ?_
    refine Jz_bipush 7 dX6_forms_13 (by decide) (fun y13 he13 => ?_)
    refine Jz_icmp_le (tgt := 21) jEq.rf he13 dX6_forms_15 (by decide) (fun c15 => ?_) (fun c15 => ?_)
    · refine J_aload_n dX6_forms_21 rfl ?_
      refine J_iload_n dX6_forms_22 rfl ?_
      refine Jw_callV1 (q9 := (RX4, TX4, 14)) moX4_holds jw_ml_X6_153 jw_im_X4_holds jw_se_X4_holds hbt rfl rfl dX6_forms_23 (w_X4_holds_z (d - 1) _ t x2 gv R sd cd tg sp (A j).1 (A j).2.1 (A j).2.2.1 (A j).2.2.2.1 (A j).2.2.2.2 ln TK WC SQ RC BC (by omega) hW  hbt ⟨_, hT, hF0⟩ ⟨_, hT, hF1⟩ ⟨_, hT, hF2⟩ ⟨_, hT, hF11⟩ ⟨_, hT, hF12⟩ ⟨_, hT, hF13⟩ ⟨_, hT, hF3⟩ ⟨_, hT, hF4⟩ ⟨_, hT, hF5⟩ ⟨_, hT, hF6⟩ ⟨_, hT, hF7⟩ d3 d4 d5 d6 d7 hgq0 hgq3 e2 e3 e4 (by omega) (by omega) htk htal) (by omega) (Nat.zero_le _) (Nat.zero_le _) (Nat.le_of_ble_eq_true rfl) (fun r23 V23 h23 => ?_)
      obtain ⟨h23, hX23_0, hX23_1, hX23_2, hX23_3, ⟨fv23_0, hfv23_0, hfp23_0⟩, ⟨fv23_1, hfv23_1, hfp23_1⟩, ⟨fv23_2, hfv23_2, hfp23_2⟩⟩ := h23
      obtain ⟨hW, hx23, hr23⟩ := h23
      have hkr := hkr.trans he.1 (jrt.of hx23 (jdis_of rfl))
      have he := he.trans (hx23.sub (jsub_of rfl))
      have ha0 := ha0.mono hx23.1
      have htlk := htlk.mono hx23.1
      have hbfo := hbfo.mono hx23.1
      have hbt := hbt.mono hx23.1
      have hbq3 := hbq3.mono hx23.1
      have hbq4 := hbq4.mono hx23.1
      have hbq5 := hbq5.mono hx23.1
      have hbq6 := hbq6.mono hx23.1
      have hbq7 := hbq7.mono hx23.1
      have hb_tr := hb_tr.mono hx23.1
      have hb_sT := hb_sT.mono hx23.1
      have hb_xxT := hb_xxT.mono hx23.1
      have hb_yyT := hb_yyT.mono hx23.1
      have hb_zzT := hb_zzT.mono hx23.1
      have hx := hx23.2 _ _ hx (jnot_of rfl)
      have hKx := hKx.mono hx23.1
      obtain ⟨fs23t, hOfs23t, hRfs23t⟩ := hx23.1.keep hT
      have hKfs23t : jokO _ (jFs 2) fs23t := hW _ _ id hOfs23t
      have hFfs23t_3 := hRfs23t _ _ hF3
      have hFfs23t_4 := hRfs23t _ _ hF4
      have hFfs23t_5 := hRfs23t _ _ hF5
      have hFfs23t_6 := hRfs23t _ _ hF6
      have hFfs23t_7 := hRfs23t _ _ hF7
      have hFfs23t_8 := hRfs23t _ _ hF8
      have hO_tr := hx23.2 _ _ hO_tr (jnot_of rfl)
      have hK_tr := hK_tr.mono hx23.1
      have d8 := hx23.2 _ _ d8 (jnot_of rfl)
      have ha_ST := hx23.2 _ _ ha_ST (jnot_of rfl)
      have ha_XT := hx23.2 _ _ ha_XT (jnot_of rfl)
      have ha_YT := hx23.2 _ _ ha_YT (jnot_of rfl)
      have ha_ZT := hx23.2 _ _ ha_ZT (jnot_of rfl)
      obtain ⟨y23, rfl, hl23, hh23, hP23_0⟩ := hr23
      have hFv23_0 := hfv23_0.get hOfs23t
      have hsb23_0 : gv = fv23_0 := (jI_inj.mp hfp23_0).symm
      subst hsb23_0
      have hFv23_1 := hfv23_1.get hOfs23t
      have hsb23_1 : R = fv23_1 := (jI_inj.mp hfp23_1).symm
      subst hsb23_1
      have hFv23_2 := hfv23_2.get hOfs23t
      have hsb23_2 : sd = fv23_2 := (jI_inj.mp hfp23_2).symm
      subst hsb23_2
      clear hX23_0
      rw [e1] at hP23_0 hX23_1 hX23_2
      obtain ⟨WC23, SQ23, RC23, BC23, ⟨a4, a5, a6, a7⟩, hhas⟩ := hX23_2
      have hH9 := jHid.mk hhas
      clear hhas
      have hHP := jHid.mk hP23_0
      clear hP23_0
      have hjt : jTL V23 a0 := jTL.upd hx0 h50 htl0 hty4 hA5 he (jnot_of rfl) hj hf hty hX23_1 (fun b hb e q _ => (hX23_3 b hb).trans q)
      have hfk : jfk fo _ V23 := jfk.of hx23 (jdis_of rfl)
      obtain ⟨hN_WC23, hv_WC23⟩ := WT_rngI (r := ((-2147483648), 2147483647)) hW id rfl a4
      clear hN_WC23
      obtain ⟨hN_RC23, hv_RC23⟩ := WT_rngI (r := ((-2147483648), 2147483647)) hW id rfl a6
      clear hN_RC23
      obtain ⟨hN_BC23, hv_BC23⟩ := WT_rngI (r := ((-2147483648), 2147483647)) hW id rfl a7
      clear hN_BC23
      refine Jz_if_eq (tgt := 43) jEq.rf dX6_forms_26 (by decide) (fun c26 => ?_) (fun c26 => ?_)
      · refine Jz_bipush (-5) dX6_forms_43 (by decide) (fun y43 he43 => ?_)
        exact J_ret (r := some (.int _)) dX6_forms_45 ⟨rfl, _, rfl, rfl⟩ (⟨⟨hW, he, ⟨_, rfl, (j_rng _).1, (j_rng _).2, (Or.inr ⟨by omega, Or.inl ⟨Or.inl (hHP.o.elim (fun q => absurd q.1 (by omega)) (fun q => q.2)), he43.eq⟩⟩)⟩⟩, hjt, htf0.keep hx23 (jdis_of rfl), hkr⟩)
      · have hle := jHid.mk (hHP.o.elim (fun q => q.2) (fun q => absurd q.1 (by omega)))
        have hh9 := jHid.mk (hH9.o hle.o)
        refine J_aload_n dX6_forms_29 rfl ?_
        refine J_get jf_X6_156 dX6_forms_30 hOfs23t hFfs23t_4 ?_
        refine J_iload_n dX6_forms_33 rfl ?_
        refine J_callS2 moX6_cell jw_ml_X6_110 jw_st_X6_cell dX6_forms_34 (w_X6_cell_x (d - 1) _ (A j).2.1 x2 a4 (WT_rngI (r := (-2147483648, 2147483647)) hW id rfl a4).1 rfl (by omega) (by omega)) (by omega) (Nat.zero_le _) (Nat.zero_le _) (Nat.le_of_ble_eq_true rfl) (fun r34 V34 h34 => ?_)
        obtain ⟨⟨y34, rfl, hf34⟩, hE34⟩ := h34
        have hE34 := hE34.symm
        subst hE34
        have hz34 : jEq y34.toInt (WC23 (x2.toInt).toNat).toInt := by rw [← hf34]; rfl
        clear hf34
        · refine Jz_sipush 3000 dX6_forms_37 (by decide) (fun y37 he37 => ?_)
          refine Jz_icmp_le (tgt := 46) hz34 he37 dX6_forms_40 (by decide) (fun c40 => ?_) (fun c40 => ?_)
          · refine J_aload_n dX6_forms_46 rfl ?_
            refine J_get jf_X6_176 dX6_forms_47 hOfs23t hFfs23t_8 ?_
            refine J_iload_n dX6_forms_50 rfl ?_
            refine J_callS2 moX6_cell jw_ml_X6_110 jw_st_X6_cell dX6_forms_51 (w_X6_cell_x (d - 1) _ fo x2 d8 (WT_rngI (r := (-2147483648, 2147483647)) hW id rfl d8).1 rfl (by omega) (by omega)) (by omega) (Nat.zero_le _) (Nat.zero_le _) (Nat.le_of_ble_eq_true rfl) (fun r51 V51 h51 => ?_)
            obtain ⟨⟨y51, rfl, hf51⟩, hE51⟩ := h51
            have hE51 := hE51.symm
            subst hE51
            have hz51 : jEq y51.toInt (FO (x2.toInt).toNat).toInt := by rw [← hf51]; rfl
            clear hf51
            · refine Jz_iconst (-1) dX6_forms_54 (by decide) (fun y54 he54 => ?_)
              refine Jz_icmp_ne (tgt := 83) hz51 he54 dX6_forms_55 (by decide) (fun c55 => ?_) (fun c55 => ?_)
              · refine J_aload_n dX6_forms_83 rfl ?_
                refine J_get jf_X6_176 dX6_forms_84 hOfs23t hFfs23t_8 ?_
                refine J_iload_n dX6_forms_87 rfl ?_
                refine J_callS2 moX6_cell jw_ml_X6_110 jw_st_X6_cell dX6_forms_88 (w_X6_cell_x (d - 1) _ fo x2 d8 (WT_rngI (r := (-2147483648, 2147483647)) hW id rfl d8).1 rfl (by omega) (by omega)) (by omega) (Nat.zero_le _) (Nat.zero_le _) (Nat.le_of_ble_eq_true rfl) (fun r88 V88 h88 => ?_)
                obtain ⟨⟨y88, rfl, hf88⟩, hE88⟩ := h88
                have hE88 := hE88.symm
                subst hE88
                have hz88 : jEq y88.toInt (FO (x2.toInt).toNat).toInt := by rw [← hf88]; rfl
                clear hf88
                · exact J_ret (r := some (.int _)) dX6_forms_91 ⟨rfl, _, rfl, rfl⟩ (⟨⟨hW, he, ⟨_, rfl, (j_rng _).1, (j_rng _).2, (Or.inr ⟨by omega, Or.inr ⟨(fun z => z.elim (fun q => absurd q (Nat.not_lt.mpr hle.o)) (fun q => absurd q (by have w := hh9.o.1; omega))), by rw [hz88.eq]; exact (hfo8 x2.toInt.toNat (by omega)).elim (fun q => absurd q c55) id⟩⟩)⟩⟩, hjt, htf0.keep hx23 (jdis_of rfl), hkr⟩)
              · refine J_aload_n dX6_forms_58 rfl ?_
                refine J_get jf_X6_22 dX6_forms_59 hx hF_tr ?_
                refine J_iload_n dX6_forms_62 rfl ?_
                refine Jw_callV1 (q9 := (RX3, TX3, 7)) moX3_begin jw_ml_X6_52 jw_im_X3_begin jw_se_X3_begin hb_tr rfl rfl dX6_forms_63 (w_X3_begin_zk (d - 1) _ tr x1 MT nT sT xxT yyT zzT ST XT YT ZT (by omega) hW  hb_tr ⟨_, hO_tr, hF_MT⟩ ⟨_, hO_tr, hF_nT⟩ ⟨_, hO_tr, hF_sT⟩ ⟨_, hO_tr, hF_xxT⟩ ⟨_, hO_tr, hF_yyT⟩ ⟨_, hO_tr, hF_zzT⟩ ha_ST ha_XT ha_YT ha_ZT) (by omega) (Nat.zero_le _) (Nat.zero_le _) (Nat.le_of_ble_eq_true rfl) (fun r63 V63 h63 => ?_)
                obtain ⟨h63, hX63_0, ⟨fv63_0, hfv63_0, hfp63_0⟩, ⟨fv63_1, hfv63_1, hfp63_1⟩, ⟨fv63_2, hfv63_2, hfp63_2⟩⟩ := h63
                obtain ⟨hW, hx63, hr63⟩ := h63
                have hkr := hkr.trans he.1 (jrt.call hx hF_tr hX63_0)
                have he := he.trans (hx63.sub (jsub_of rfl))
                have hjt := hjt.keep hx63 (jdis_of rfl)
                have hfk := hfk.keep hx63 (jdis_of rfl)
                have ha0 := ha0.mono hx63.1
                have htlk := htlk.mono hx63.1
                have hbfo := hbfo.mono hx63.1
                have hbt := hbt.mono hx63.1
                have hbq3 := hbq3.mono hx63.1
                have hbq4 := hbq4.mono hx63.1
                have hbq5 := hbq5.mono hx63.1
                have hbq6 := hbq6.mono hx63.1
                have hbq7 := hbq7.mono hx63.1
                have hb_tr := hb_tr.mono hx63.1
                have hb_sT := hb_sT.mono hx63.1
                have hb_xxT := hb_xxT.mono hx63.1
                have hb_yyT := hb_yyT.mono hx63.1
                have hb_zzT := hb_zzT.mono hx63.1
                have hx := hx63.2 _ _ hx (jnot_of rfl)
                have hKx := hKx.mono hx63.1
                have hOfs23t := hx63.2 _ _ hOfs23t (jnot_of rfl)
                have hKfs23t := hKfs23t.mono hx63.1
                obtain ⟨fs63tr, hOfs63tr, hRfs63tr⟩ := hx63.1.keep hO_tr
                have hKfs63tr : jokO _ (jFs 1) fs63tr := hW _ _ id hOfs63tr
                have hFfs63tr_1 := hRfs63tr _ _ hF_sT
                have hFfs63tr_2 := hRfs63tr _ _ hF_xxT
                have hFfs63tr_3 := hRfs63tr _ _ hF_yyT
                have hFfs63tr_4 := hRfs63tr _ _ hF_zzT
                have d8 := hx63.2 _ _ d8 (jnot_of rfl)
                have ha_ST := hx63.2 _ _ ha_ST (jnot_of rfl)
                have ha_XT := hx63.2 _ _ ha_XT (jnot_of rfl)
                have ha_YT := hx63.2 _ _ ha_YT (jnot_of rfl)
                have ha_ZT := hx63.2 _ _ ha_ZT (jnot_of rfl)
                have a4 := hx63.2 _ _ a4 (jnot_of rfl)
                have a5 := hx63.2 _ _ a5 (jnot_of rfl)
                have a6 := hx63.2 _ _ a6 (jnot_of rfl)
                have a7 := hx63.2 _ _ a7 (jnot_of rfl)
                cases hr63
                have hFv63_0 := hfv63_0.get hOfs63tr
                have hsb63_0 : MT = fv63_0 := (jI_inj.mp hfp63_0).symm
                subst hsb63_0
                have hFv63_1 := hfv63_1.get hOfs63tr
                have hsb63_1 : x1 = fv63_1 := (jI_inj.mp hfp63_1).symm
                subst hsb63_1
                have hFv63_2 := hfv63_2.get hOfs63tr
                have hzf63_2 : jEq fv63_2.toInt (0) := hfp63_2
                clear hfp63_2
                refine J_aload_n dX6_forms_66 rfl ?_
                refine J_get jf_X6_176 dX6_forms_67 hOfs23t hFfs23t_8 ?_
                refine J_iload_n dX6_forms_70 rfl ?_
                refine J_aload_n dX6_forms_71 rfl ?_
                refine J_get jf_X6_22 dX6_forms_72 hx hF_tr ?_
                refine J_iload_n dX6_forms_75 rfl ?_
                refine Jz_iconst 0 dX6_forms_76 (by decide) (fun y76 he76 => ?_)
                refine J_callSN3 moX1_countForms (host := "WalkGrounds") (List.mem_of_getElem? (i := 5) rfl) jw_st_X1_countForms dX6_forms_77 (w_X1_countForms_z 9 (d - 1) _ tr x2 y76 MT x1 fv63_2 sT xxT yyT zzT ST XT YT ZT (by omega) hW hb_tr (by (try simp only [he76.eq, true_and, and_true]) <;> omega) (by (try simp only [he76.eq, true_and, and_true]) <;> omega) ⟨_, hOfs63tr, hFv63_0⟩ ⟨_, hOfs63tr, hFv63_1⟩ ⟨_, hOfs63tr, hFv63_2⟩ ⟨_, hOfs63tr, hFfs63tr_1⟩ ⟨_, hOfs63tr, hFfs63tr_2⟩ ⟨_, hOfs63tr, hFfs63tr_3⟩ ⟨_, hOfs63tr, hFfs63tr_4⟩ ha_ST ha_XT ha_YT ha_ZT (by omega) (by omega) (by omega) (by rw [hzf63_2.eq, he76.eq]) (by rw [he76.eq]; omega) (by omega) (fun j9 hj9 => by rw [hzf63_2.eq] at hj9; omega) (by rw [hzf63_2.eq]; intro i hi; rw [show i = 0 by omega]; exact ⟨hz0, hz1, hz2⟩) (by rw [hzf63_2.eq]; exact jav.zero) (by (try simp only [he76.eq, hzf63_2.eq, true_and, and_true]) <;> omega)) (by omega) (Nat.zero_le _) (Nat.zero_le _) (Nat.le_of_ble_eq_true rfl) (fun r77 V77 h77 => ?_)
                obtain ⟨h77, hX77_0, hX77_1, hX77_2, ⟨fv77_0, hfv77_0, hfp77_0⟩, ⟨fv77_1, hfv77_1, hfp77_1⟩, ⟨fv77_2, hfv77_2, hfp77_2⟩⟩ := h77
                obtain ⟨hW, hx77, hr77⟩ := h77
                have hkr := hkr.trans he.1 (jrt.call hx hF_tr hX77_1)
                have he := he.trans (hx77.sub (jsub_of rfl))
                have hjt := hjt.keep hx77 (jdis_of rfl)
                have hfk := hfk.keep hx77 (jdis_of rfl)
                have ha0 := ha0.mono hx77.1
                have htlk := htlk.mono hx77.1
                have hbfo := hbfo.mono hx77.1
                have hbt := hbt.mono hx77.1
                have hbq3 := hbq3.mono hx77.1
                have hbq4 := hbq4.mono hx77.1
                have hbq5 := hbq5.mono hx77.1
                have hbq6 := hbq6.mono hx77.1
                have hbq7 := hbq7.mono hx77.1
                have hb_tr := hb_tr.mono hx77.1
                have hb_sT := hb_sT.mono hx77.1
                have hb_xxT := hb_xxT.mono hx77.1
                have hb_yyT := hb_yyT.mono hx77.1
                have hb_zzT := hb_zzT.mono hx77.1
                have hx := hx77.2 _ _ hx (jnot_of rfl)
                have hKx := hKx.mono hx77.1
                have hOfs23t := hx77.2 _ _ hOfs23t (jnot_of rfl)
                have hKfs23t := hKfs23t.mono hx77.1
                obtain ⟨fs77tr, hOfs77tr, hRfs77tr⟩ := hx77.1.keep hOfs63tr
                have hKfs77tr : jokO _ (jFs 1) fs77tr := hW _ _ id hOfs77tr
                have hFfs77tr_1 := hRfs77tr _ _ hFfs63tr_1
                have hFfs77tr_2 := hRfs77tr _ _ hFfs63tr_2
                have hFfs77tr_3 := hRfs77tr _ _ hFfs63tr_3
                have hFfs77tr_4 := hRfs77tr _ _ hFfs63tr_4
                have d8 := hx77.2 _ _ d8 (jnot_of rfl)
                have a4 := hx77.2 _ _ a4 (jnot_of rfl)
                have a5 := hx77.2 _ _ a5 (jnot_of rfl)
                have a6 := hx77.2 _ _ a6 (jnot_of rfl)
                have a7 := hx77.2 _ _ a7 (jnot_of rfl)
                obtain ⟨y77, rfl, hl77, hh77, hP77_0⟩ := hr77
                clear hl77 hh77
                try simp only [he76.eq, hzf63_2.eq] at hP77_0
                have hFv77_0 := hfv77_0.get hOfs77tr
                try simp only [he76.eq, hzf63_2.eq] at hfp77_0
                have hzf77_0 : jEq fv77_0.toInt ((0)) := hfp77_0
                clear hfp77_0
                have hFv77_1 := hfv77_1.get hOfs77tr
                try simp only [he76.eq, hzf63_2.eq] at hfp77_1
                have hsb77_1 : MT = fv77_1 := (jI_inj.mp hfp77_1).symm
                subst hsb77_1
                have hFv77_2 := hfv77_2.get hOfs77tr
                try simp only [he76.eq, hzf63_2.eq] at hfp77_2
                have hsb77_2 : x1 = fv77_2 := (jI_inj.mp hfp77_2).symm
                subst hsb77_2
                have hval : y77.toInt = ((jfo (j : Int) x2.toInt.toNat : Nat) : Int) := by
                  rw [hP77_0, show (x2.toInt - 0).toNat = x2.toInt.toNat by omega, hgj]
                  exact congrArg (fun z : Nat => (z : Int)) (jfc_congr _ (fun q hq => absurd hq (by omega)))
                refine J_callS3 moX6_put jw_ml_X6_183 jw_st_X6_put dX6_forms_80 (w_X6_put_z (d - 1) _ fo x2 y77 hW d8 (WT_rngI (r := (-2147483648, 2147483647)) hW id rfl d8).1 rfl rfl (by omega)) (by omega) (Nat.zero_le _) (Nat.zero_le _) (Nat.le_of_ble_eq_true rfl) (fun r80 V80 h80 => ?_)
                obtain ⟨rfl, hW, hx80, hB80, G80, hA80, hp80, ho80⟩ := h80
                obtain ⟨hN80, hv80⟩ := WT_rngI (r := (-2147483648, 2147483647)) hW id rfl hA80
                clear hN80
                have hkr := hkr.trans he.1 (jrt.of hx80 (jdis_of rfl))
                have he := he.trans (hx80.sub (jsub_of rfl))
                have ha0 := ha0.mono hx80.1
                have htlk := htlk.mono hx80.1
                have hbfo := hbfo.mono hx80.1
                have hbt := hbt.mono hx80.1
                have hbq3 := hbq3.mono hx80.1
                have hbq4 := hbq4.mono hx80.1
                have hbq5 := hbq5.mono hx80.1
                have hbq6 := hbq6.mono hx80.1
                have hbq7 := hbq7.mono hx80.1
                have hb_tr := hb_tr.mono hx80.1
                have hb_sT := hb_sT.mono hx80.1
                have hb_xxT := hb_xxT.mono hx80.1
                have hb_yyT := hb_yyT.mono hx80.1
                have hb_zzT := hb_zzT.mono hx80.1
                have hx := hx80.2 _ _ hx (jnot_of rfl)
                have hKx := hKx.mono hx80.1
                have hOfs23t := hx80.2 _ _ hOfs23t (jnot_of rfl)
                have hKfs23t := hKfs23t.mono hx80.1
                have hOfs77tr := hx80.2 _ _ hOfs77tr (jnot_of rfl)
                have hKfs77tr := hKfs77tr.mono hx80.1
                have a4 := hx80.2 _ _ a4 (jnot_of rfl)
                have a5 := hx80.2 _ _ a5 (jnot_of rfl)
                have a6 := hx80.2 _ _ a6 (jnot_of rfl)
                have a7 := hx80.2 _ _ a7 (jnot_of rfl)
                have hjt := hjt.keep hx80 (jdis_of rfl)
                have hfk := hfk.put hx80 hB80
                · refine J_aload_n dX6_forms_83 rfl ?_
                  refine J_get jf_X6_176 dX6_forms_84 hOfs23t hFfs23t_8 ?_
                  refine J_iload_n dX6_forms_87 rfl ?_
                  refine J_callS2 moX6_cell jw_ml_X6_110 jw_st_X6_cell dX6_forms_88 (w_X6_cell_x (d - 1) _ fo x2 hA80 (WT_rngI (r := (-2147483648, 2147483647)) hW id rfl hA80).1 rfl (by omega) (by omega)) (by omega) (Nat.zero_le _) (Nat.zero_le _) (Nat.le_of_ble_eq_true rfl) (fun r88 V88 h88 => ?_)
                  obtain ⟨⟨y88, rfl, hf88⟩, hE88⟩ := h88
                  have hE88 := hE88.symm
                  subst hE88
                  have hz88 : jEq y88.toInt (G80 (x2.toInt).toNat).toInt := by rw [← hf88]; rfl
                  clear hf88
                  · exact J_ret (r := some (.int _)) dX6_forms_91 ⟨rfl, _, rfl, rfl⟩ (⟨⟨hW, he, ⟨_, rfl, (j_rng _).1, (j_rng _).2, (Or.inr ⟨by omega, Or.inr ⟨(fun z => z.elim (fun q => absurd q (Nat.not_lt.mpr hle.o)) (fun q => absurd q (by have w := hh9.o.1; omega))), by rw [hz88.eq, hp80 (by omega)]; exact hval⟩⟩)⟩⟩, hjt, (hup _ _ hfk hA80 (fun m hm => by by_cases e : m = x2.toInt.toNat; (subst e; exact Or.inr (by rw [hp80 (by omega)]; exact hval)); (rw [ho80 m e]; exact hfo8 m hm))), hkr⟩)
          · refine Jz_bipush (-5) dX6_forms_43 (by decide) (fun y43 he43 => ?_)
            exact J_ret (r := some (.int _)) dX6_forms_45 ⟨rfl, _, rfl, rfl⟩ (⟨⟨hW, he, ⟨_, rfl, (j_rng _).1, (j_rng _).2, (Or.inr ⟨by omega, Or.inl ⟨Or.inr (by have w := hh9.o.1; omega), he43.eq⟩⟩)⟩⟩, hjt, htf0.keep hx23 (jdis_of rfl), hkr⟩)
    · refine Jz_bipush (-2) dX6_forms_18 (by decide) (fun y18 he18 => ?_)
      exact J_ret (r := some (.int _)) dX6_forms_20 ⟨rfl, _, rfl, rfl⟩ (⟨⟨hW, he, ⟨_, rfl, (j_rng _).1, (j_rng _).2, (Or.inl ⟨by omega, he18.eq⟩)⟩⟩, hjt0, htf0, hkr⟩)
set_option maxRecDepth 100000 in
set_option maxHeartbeats 8000000 in
theorem w_X6_forms_znew {tS : jTS} (d : Nat) (V0 : jH) (a0 : Nat) (x1 : Int32) (x2 : Int32) (fs : List Value) (tl : Nat) (f : Nat → Option Nat) (j : Nat) (A : Nat → jad) (tr : Nat) (MT : Int32) (gT : Int32) (nT : Int32) (sT : Nat) (xxT : Nat) (yyT : Nat) (zzT : Nat) (ST : Nat → Int32) (XT : Nat → Int32) (YT : Nat → Int32) (ZT : Nat → Int32) (hd : 28 ≤ d) (hW : WT V0) (ha0 : jis V0 (.inr 4) a0) (hx : V0 a0 = some (.inr (4, fs))) (h5 : fs[5]? = some (.ref tl)) (htl : V0 tl = some (.inl (5, 4, .inr (.inr (.inr (.inr f)))))) (hg : x1 = nI j) (hj : j < 4) (hb1 : ¬ x1 < 0) (hb2 : ¬ Int32.ofNat 4 ≤ x1) (hb3 : ¬ x2 < 0) (hb4 : x2 ≤ 20) (hf : f j = none) (hty4 : ∀ j : Nat, j < 4 → f j = none ∨ ∃ t : Nat, f j = some t ∧ jty V0 t (A j) (j : Int)) (hA5 : ∀ i j : Nat, i < 4 → j < 4 → i ≠ j → f i ≠ none → f j ≠ none → jsp (A i) (A j)) (hf_MT : jfI V0 tr 1 0 MT) (hf_gT : jfI V0 tr 1 5 gT) (hf_nT : jfI V0 tr 1 6 nT) (hr_sT : jfR V0 tr 1 1 sT) (hr_xxT : jfR V0 tr 1 2 xxT) (hr_yyT : jfR V0 tr 1 3 yyT) (hr_zzT : jfR V0 tr 1 4 zzT) (ha_ST : V0 sT = some (.inl (6, 120, .inl ST))) (ha_XT : V0 xxT = some (.inl (34, 121, .inl XT))) (ha_YT : V0 yyT = some (.inl (35, 121, .inl YT))) (ha_ZT : V0 zzT = some (.inl (36, 121, .inl ZT))) (hm_tr : MT.toInt = 120) (hn_tr : nT.toInt ≤ 120) (hr_tr : jfR V0 a0 4 2 tr) (htf0 : jTF V0 a0) (hp0 : 0 ≤ x2.toInt) (hp1 : x2.toInt ≤ 20) (hp2 : (XT 0).toInt = 0) (hp3 : (YT 0).toInt = 0) (hp4 : (ZT 0).toInt = 0) : jTot tS mX6_forms d [.ref a0, .int x1, .int x2] V0 8 15738 (fun r V => (jPost [.inl 5, .inr 2, .inl 1, .inl 2, .inl 8, .inl 37, .inl 38, .inr 1, .inl 6, .inl 34, .inl 35, .inl 36, .inl 13] V0 (fun r _ => ∃ y : Int32, r = some (.int y) ∧ ((-2147483648) ≤ y.toInt) ∧ (y.toInt ≤ 2147483647) ∧ ((7 < x2.toInt ∧ y.toInt = -2) ∨ (x2.toInt ≤ 7 ∧ (((600000 < jTT (j : Int) x2.toInt.toNat jL0 ∨ 3000 < (jrq (j : Int) x2.toInt.toNat).1) ∧ y.toInt = -5) ∨ (¬ (600000 < jTT (j : Int) x2.toInt.toNat jL0 ∨ 3000 < (jrq (j : Int) x2.toInt.toNat).1) ∧ y.toInt = ((jfo (j : Int) x2.toInt.toNat : Nat) : Int))))))) r V ∧ jTL V a0 ∧ jTF V a0 ∧ (∃ f2 : Nat → Option Nat, V tl = some (.inl (5, 4, .inr (.inr (.inr (.inr f2))))) ∧ (∀ i, i ≠ j → f2 i = f i) ∧ ∃ t, f2 j = some t) ∧ jrt a0 V0 V) := by
  refine jTot.of_J [some (.ref a0), some (.int x1), some (.int x2), none] moX6_forms (Nat.le_of_ble_eq_true rfl) rfl ?_
  have hrx1 := j_rng x1
  have hrx2 := j_rng x2
  have he : jeff [.inl 5, .inr 2, .inl 1, .inl 2, .inl 8, .inl 37, .inl 38, .inr 1, .inl 6, .inl 34, .inl 35, .inl 36, .inl 13] V0 V0 := jeff.refl _ _
  have hkr : jrt a0 V0 V0 := jrt.rf
  have hb30 := hb3
  have hKx : jokO V0 (jFs 4) fs := hW _ _ id hx
  have htlk : jis V0 (.inl 5) tl := ⟨_, htl, rfl⟩
  have hN4 : (4 : Nat) < 2 ^ 31 := by decide
  have hvt : ∀ (j b : Nat), j < 4 → f j = some b → jis V0 (.inr 2) b := by
    obtain ⟨n9, f9, h91, h92, h93, h94⟩ := WT_arrR hW id rfl htlk
    cases htl.symm.trans h91
    exact h94
  have hjj : ∀ j2 : Nat, x1 = nI j2 → j2 < 4 → j2 = j := fun j2 h1 h2 => by
    have h3 : x1.toNatClampNeg = j2 := by rw [h1]; exact nI_clamp (by omega)
    have h4 : x1.toNatClampNeg = j := by rw [hg]; exact nI_clamp (by omega)
    omega
  clear hN4
  have hx0 := hx
  have h50 := h5
  have htl0 := htl
  have hgj : x1.toInt = (j : Int) := by rw [hg]; exact nI_toInt (by omega)
  have hb_tr : jis V0 (.inr 1) tr := by obtain ⟨q1, q2, q3⟩ := hf_MT; exact ⟨_, q2, rfl⟩
  obtain ⟨fs_tr, hO_tr, hK_tr⟩ := WT_obj hW id hb_tr
  have hF_MT := hf_MT.get hO_tr
  have hrMT : 0 ≤ MT.toInt ∧ MT.toInt ≤ 120 := jok_rngI hK_tr rfl hF_MT
  have hF_gT := hf_gT.get hO_tr
  have hrgT : (-2147483648) ≤ gT.toInt ∧ gT.toInt ≤ 2147483647 := jok_rngI hK_tr rfl hF_gT
  have hF_nT := hf_nT.get hO_tr
  have hrnT : 0 ≤ nT.toInt ∧ nT.toInt ≤ 120 := jok_rngI hK_tr rfl hF_nT
  have hF_sT := hr_sT.get hO_tr
  have hb_sT : jis V0 (.inl 6) sT := ⟨_, ha_ST, rfl⟩
  obtain ⟨hN_ST, hv_ST⟩ := WT_rngI (r := (-2147483648, 2147483647)) hW id rfl ha_ST
  clear hN_ST
  have hF_xxT := hr_xxT.get hO_tr
  have hb_xxT : jis V0 (.inl 34) xxT := ⟨_, ha_XT, rfl⟩
  obtain ⟨hN_XT, hv_XT⟩ := WT_rngI (r := (-2147483648, 2147483647)) hW id rfl ha_XT
  clear hN_XT
  have hF_yyT := hr_yyT.get hO_tr
  have hb_yyT : jis V0 (.inl 35) yyT := ⟨_, ha_YT, rfl⟩
  obtain ⟨hN_YT, hv_YT⟩ := WT_rngI (r := (-2147483648, 2147483647)) hW id rfl ha_YT
  clear hN_YT
  have hF_zzT := hr_zzT.get hO_tr
  have hb_zzT : jis V0 (.inl 36) zzT := ⟨_, ha_ZT, rfl⟩
  obtain ⟨hN_ZT, hv_ZT⟩ := WT_rngI (r := (-2147483648, 2147483647)) hW id rfl ha_ZT
  clear hN_ZT
  have hF_tr := hr_tr.get hx
  have hz0 := hp2
  have hz1 := hp3
  have hz2 := hp4
  refine J_aload_n dX6_forms_0 rfl ?_
  refine J_iload_n dX6_forms_1 rfl ?_
  refine J_iload_n dX6_forms_2 rfl ?_
  refine Jz_iconst 0 dX6_forms_3 (by decide) (fun y3 he3 => ?_)
  refine Jw_callV3 (q9 := (RX6, TX6, 7)) moX6_tallyFor jw_ml_X6_149 jw_im_X6_tallyFor jw_se_X6_tallyFor ha0 rfl rfl dX6_forms_4 (w_X6_tallyFor_newz (d - 1) _ _ _ _ _ fs tl f j (by omega) hW ha0 hx h5 htl hg hj hf hb1 hb2 (by rw [(jI_inj.mp (he3.eq.trans rfl) : y3 = 0)]; exact hb30) hb4) (by omega) (by omega) (by omega) (Nat.le_of_ble_eq_true rfl) (fun r4 V4 h4 => ?_)
  obtain ⟨t, rfl, hW, hx4, hbt0, htl2, hjm⟩ := h4
  have hkr := hkr.trans he.1 (jrt.of hx4 (jdis_of rfl))
  have he := he.trans (hx4.sub (jsub_of rfl))
  have ha0 := ha0.mono hx4.1
  have htlk := htlk.mono hx4.1
  have hb_tr := hb_tr.mono hx4.1
  have hb_sT := hb_sT.mono hx4.1
  have hb_xxT := hb_xxT.mono hx4.1
  have hb_yyT := hb_yyT.mono hx4.1
  have hb_zzT := hb_zzT.mono hx4.1
  have hx := hx4.2 _ _ hx (jnot_of rfl)
  have hKx := hKx.mono hx4.1
  have hO_tr := hx4.2 _ _ hO_tr (jnot_of rfl)
  have hK_tr := hK_tr.mono hx4.1
  have ha_ST := hx4.2 _ _ ha_ST (jnot_of rfl)
  have ha_XT := hx4.2 _ _ ha_XT (jnot_of rfl)
  have ha_YT := hx4.2 _ _ ha_YT (jnot_of rfl)
  have ha_ZT := hx4.2 _ _ ha_ZT (jnot_of rfl)
  have htlk : jis V4 (.inl 5) tl := ⟨_, htl2, rfl⟩
  obtain ⟨P, hnew, hty, hnf, hfa⟩ := hjm
  have htf : jHid (jTF V0 a0 → jTF V4 a0) := jHid.mk (fun q => jTF.fresh q hx0 h50 htl0 hx4.1 htl2 hf (va_up_self _ _ _) (fun i hi => va_up_ne _ _ hi) hnf hfa)
  obtain ⟨gv, R, sd, cd, tg, sp, ln, TK, WC, SQ, RC, BC, ⟨e1, e2, e3, e4⟩, ⟨⟨ts, hT, hF0⟩, i1, i2, i3, i4, i5⟩, ⟨r3, r4, r5, r6, r7⟩, ⟨d3, d4, d5, d6, d7⟩, htk, htal⟩ := id hty
  rw [← e1] at e2 e3 e4 htk htal
  have hF1 := i1.get hT
  have hF2 := i2.get hT
  have hF11 := i3.get hT
  have hF12 := i4.get hT
  have hF13 := i5.get hT
  have hF3 := r3.get hT
  have hF4 := r4.get hT
  have hF5 := r5.get hT
  have hF6 := r6.get hT
  have hF7 := r7.get hT
  have hbt : jis V4 (.inr 2) t := ⟨_, hT, rfl⟩
  have hKt : jokO V4 (jFs 2) ts := hW _ _ id hT
  have hbq3 : jis V4 (.inl 2) _ := ⟨_, d3, rfl⟩
  have hbq4 : jis V4 (.inl 8) _ := ⟨_, d4, rfl⟩
  have hbq5 : jis V4 (.inl 1) _ := ⟨_, d5, rfl⟩
  have hbq6 : jis V4 (.inl 37) _ := ⟨_, d6, rfl⟩
  have hbq7 : jis V4 (.inl 38) _ := ⟨_, d7, rfl⟩
  have hgq0 : 0 ≤ gv.toInt := by omega
  have hgq3 : gv.toInt ≤ 3 := by omega
  have htf0 := htf.o htf0
  obtain ⟨fo, FO, q8, d8, hfo8, hup⟩ := jTF.at1 htf0 hx h5 htl2 hj (va_up_self _ _ _)
  have hF8 := q8.get hT
  have hbfo : jis V4 (.inl 13) fo := ⟨_, d8, rfl⟩
  have hjt0 : jTL V4 a0 := jTL.fresh hx0 h50 hty4 hA5 he.1 htl2 hj hf (va_up_self _ _ _) (fun i hi => va_up_ne _ _ hi) hty hnew (jTL.frs ⟨_, htl0, rfl⟩ hnew hfa jfp.rf)
  · refine J_astore_n dX6_forms_7 rfl (by decide) ?_
    refine J_aload_n dX6_forms_8 rfl ?_
    refine J_ifnull dX6_forms_9 ?_
    refine J_iload_n dX6_forms_12 rfl ?_
    refine Jz_bipush 7 dX6_forms_13 (by decide) (fun y13 he13 => ?_)
    refine Jz_icmp_le (tgt := 21) jEq.rf he13 dX6_forms_15 (by decide) (fun c15 => ?_) (fun c15 => ?_)
    · refine J_aload_n dX6_forms_21 rfl ?_
      refine J_iload_n dX6_forms_22 rfl ?_
      refine Jw_callV1 (q9 := (RX4, TX4, 14)) moX4_holds jw_ml_X6_153 jw_im_X4_holds jw_se_X4_holds hbt rfl rfl dX6_forms_23 (w_X4_holds_z (d - 1) _ t x2 gv R sd cd tg sp P.1 P.2.1 P.2.2.1 P.2.2.2.1 P.2.2.2.2 ln TK WC SQ RC BC (by omega) hW  hbt ⟨_, hT, hF0⟩ ⟨_, hT, hF1⟩ ⟨_, hT, hF2⟩ ⟨_, hT, hF11⟩ ⟨_, hT, hF12⟩ ⟨_, hT, hF13⟩ ⟨_, hT, hF3⟩ ⟨_, hT, hF4⟩ ⟨_, hT, hF5⟩ ⟨_, hT, hF6⟩ ⟨_, hT, hF7⟩ d3 d4 d5 d6 d7 hgq0 hgq3 e2 e3 e4 (by omega) (by omega) htk htal) (by omega) (Nat.zero_le _) (Nat.zero_le _) (Nat.le_of_ble_eq_true rfl) (fun r23 V23 h23 => ?_)
      obtain ⟨h23, hX23_0, hX23_1, hX23_2, hX23_3, ⟨fv23_0, hfv23_0, hfp23_0⟩, ⟨fv23_1, hfv23_1, hfp23_1⟩, ⟨fv23_2, hfv23_2, hfp23_2⟩⟩ := h23
      obtain ⟨hW, hx23, hr23⟩ := h23
      have hkr := hkr.trans he.1 (jrt.of hx23 (jdis_of rfl))
      have he := he.trans (hx23.sub (jsub_of rfl))
      have ha0 := ha0.mono hx23.1
      have htlk := htlk.mono hx23.1
      have hb_tr := hb_tr.mono hx23.1
      have hb_sT := hb_sT.mono hx23.1
      have hb_xxT := hb_xxT.mono hx23.1
      have hb_yyT := hb_yyT.mono hx23.1
      have hb_zzT := hb_zzT.mono hx23.1
      have hbt := hbt.mono hx23.1
      have hbq3 := hbq3.mono hx23.1
      have hbq4 := hbq4.mono hx23.1
      have hbq5 := hbq5.mono hx23.1
      have hbq6 := hbq6.mono hx23.1
      have hbq7 := hbq7.mono hx23.1
      have hbfo := hbfo.mono hx23.1
      have hx := hx23.2 _ _ hx (jnot_of rfl)
      have hKx := hKx.mono hx23.1
      have hO_tr := hx23.2 _ _ hO_tr (jnot_of rfl)
      have hK_tr := hK_tr.mono hx23.1
      obtain ⟨fs23t, hOfs23t, hRfs23t⟩ := hx23.1.keep hT
      have hKfs23t : jokO _ (jFs 2) fs23t := hW _ _ id hOfs23t
      have hFfs23t_3 := hRfs23t _ _ hF3
      have hFfs23t_4 := hRfs23t _ _ hF4
      have hFfs23t_5 := hRfs23t _ _ hF5
      have hFfs23t_6 := hRfs23t _ _ hF6
      have hFfs23t_7 := hRfs23t _ _ hF7
      have hFfs23t_8 := hRfs23t _ _ hF8
      have ha_ST := hx23.2 _ _ ha_ST (jnot_of rfl)
      have ha_XT := hx23.2 _ _ ha_XT (jnot_of rfl)
      have ha_YT := hx23.2 _ _ ha_YT (jnot_of rfl)
      have ha_ZT := hx23.2 _ _ ha_ZT (jnot_of rfl)
      have htl2 := hx23.2 _ _ htl2 (jnot_of rfl)
      have d8 := hx23.2 _ _ d8 (jnot_of rfl)
      obtain ⟨y23, rfl, hl23, hh23, hP23_0⟩ := hr23
      have hFv23_0 := hfv23_0.get hOfs23t
      have hsb23_0 : gv = fv23_0 := (jI_inj.mp hfp23_0).symm
      subst hsb23_0
      have hFv23_1 := hfv23_1.get hOfs23t
      have hsb23_1 : R = fv23_1 := (jI_inj.mp hfp23_1).symm
      subst hsb23_1
      have hFv23_2 := hfv23_2.get hOfs23t
      have hsb23_2 : sd = fv23_2 := (jI_inj.mp hfp23_2).symm
      subst hsb23_2
      clear hX23_0
      rw [e1] at hP23_0 hX23_1 hX23_2
      obtain ⟨WC23, SQ23, RC23, BC23, ⟨a4, a5, a6, a7⟩, hhas⟩ := hX23_2
      have hH9 := jHid.mk hhas
      clear hhas
      have hHP := jHid.mk hP23_0
      clear hP23_0
      have hjt : jTL V23 a0 := jTL.fresh hx0 h50 hty4 hA5 he.1 htl2 hj hf (va_up_self _ _ _) (fun i hi => va_up_ne _ _ hi) hX23_1 hnew (jTL.frs ⟨_, htl0, rfl⟩ hnew hfa hX23_3)
      have hfk : jfk fo _ V23 := jfk.of hx23 (jdis_of rfl)
      obtain ⟨hN_WC23, hv_WC23⟩ := WT_rngI (r := ((-2147483648), 2147483647)) hW id rfl a4
      clear hN_WC23
      obtain ⟨hN_RC23, hv_RC23⟩ := WT_rngI (r := ((-2147483648), 2147483647)) hW id rfl a6
      clear hN_RC23
      obtain ⟨hN_BC23, hv_BC23⟩ := WT_rngI (r := ((-2147483648), 2147483647)) hW id rfl a7
      clear hN_BC23
      refine Jz_if_eq (tgt := 43) jEq.rf dX6_forms_26 (by decide) (fun c26 => ?_) (fun c26 => ?_)
      · refine Jz_bipush (-5) dX6_forms_43 (by decide) (fun y43 he43 => ?_)
        exact J_ret (r := some (.int _)) dX6_forms_45 ⟨rfl, _, rfl, rfl⟩ (⟨⟨hW, he, ⟨_, rfl, (j_rng _).1, (j_rng _).2, (Or.inr ⟨by omega, Or.inl ⟨Or.inl (hHP.o.elim (fun q => absurd q.1 (by omega)) (fun q => q.2)), he43.eq⟩⟩)⟩⟩, hjt, htf0.keep hx23 (jdis_of rfl), ⟨_, htl2, fun i hi => va_up_ne _ _ hi, _, va_up_self _ _ _⟩, hkr⟩)
      · have hle := jHid.mk (hHP.o.elim (fun q => q.2) (fun q => absurd q.1 (by omega)))
        have hh9 := jHid.mk (hH9.o hle.o)
        refine J_aload_n dX6_forms_29 rfl ?_
        refine J_get jf_X6_156 dX6_forms_30 hOfs23t hFfs23t_4 ?_
        refine J_iload_n dX6_forms_33 rfl ?_
        refine J_callS2 moX6_cell jw_ml_X6_110 jw_st_X6_cell dX6_forms_34 (w_X6_cell_x (d - 1) _ P.2.1 x2 a4 (WT_rngI (r := (-2147483648, 2147483647)) hW id rfl a4).1 rfl (by omega) (by omega)) (by omega) (Nat.zero_le _) (Nat.zero_le _) (Nat.le_of_ble_eq_true rfl) (fun r34 V34 h34 => ?_)
        obtain ⟨⟨y34, rfl, hf34⟩, hE34⟩ := h34
        have hE34 := hE34.symm
        subst hE34
        have hz34 : jEq y34.toInt (WC23 (x2.toInt).toNat).toInt := by rw [← hf34]; rfl
        clear hf34
        · refine Jz_sipush 3000 dX6_forms_37 (by decide) (fun y37 he37 => ?_)
          refine Jz_icmp_le (tgt := 46) hz34 he37 dX6_forms_40 (by decide) (fun c40 => ?_) (fun c40 => ?_)
          · refine J_aload_n dX6_forms_46 rfl ?_
            refine J_get jf_X6_176 dX6_forms_47 hOfs23t hFfs23t_8 ?_
            refine J_iload_n dX6_forms_50 rfl ?_
            refine J_callS2 moX6_cell jw_ml_X6_110 jw_st_X6_cell dX6_forms_51 (w_X6_cell_x (d - 1) _ fo x2 d8 (WT_rngI (r := (-2147483648, 2147483647)) hW id rfl d8).1 rfl (by omega) (by omega)) (by omega) (Nat.zero_le _) (Nat.zero_le _) (Nat.le_of_ble_eq_true rfl) (fun r51 V51 h51 => ?_)
            obtain ⟨⟨y51, rfl, hf51⟩, hE51⟩ := h51
            have hE51 := hE51.symm
            subst hE51
            have hz51 : jEq y51.toInt (FO (x2.toInt).toNat).toInt := by rw [← hf51]; rfl
            clear hf51
            · refine Jz_iconst (-1) dX6_forms_54 (by decide) (fun y54 he54 => ?_)
              refine Jz_icmp_ne (tgt := 83) hz51 he54 dX6_forms_55 (by decide) (fun c55 => ?_) (fun c55 => ?_)
              · refine J_aload_n dX6_forms_83 rfl ?_
                refine J_get jf_X6_176 dX6_forms_84 hOfs23t hFfs23t_8 ?_
                refine J_iload_n dX6_forms_87 rfl ?_
                refine J_callS2 moX6_cell jw_ml_X6_110 jw_st_X6_cell dX6_forms_88 (w_X6_cell_x (d - 1) _ fo x2 d8 (WT_rngI (r := (-2147483648, 2147483647)) hW id rfl d8).1 rfl (by omega) (by omega)) (by omega) (Nat.zero_le _) (Nat.zero_le _) (Nat.le_of_ble_eq_true rfl) (fun r88 V88 h88 => ?_)
                obtain ⟨⟨y88, rfl, hf88⟩, hE88⟩ := h88
                have hE88 := hE88.symm
                subst hE88
                have hz88 : jEq y88.toInt (FO (x2.toInt).toNat).toInt := by rw [← hf88]; rfl
                clear hf88
                · exact J_ret (r := some (.int _)) dX6_forms_91 ⟨rfl, _, rfl, rfl⟩ (⟨⟨hW, he, ⟨_, rfl, (j_rng _).1, (j_rng _).2, (Or.inr ⟨by omega, Or.inr ⟨(fun z => z.elim (fun q => absurd q (Nat.not_lt.mpr hle.o)) (fun q => absurd q (by have w := hh9.o.1; omega))), by rw [hz88.eq]; exact (hfo8 x2.toInt.toNat (by omega)).elim (fun q => absurd q c55) id⟩⟩)⟩⟩, hjt, htf0.keep hx23 (jdis_of rfl), ⟨_, htl2, fun i hi => va_up_ne _ _ hi, _, va_up_self _ _ _⟩, hkr⟩)
              · refine J_aload_n dX6_forms_58 rfl ?_
                refine J_get jf_X6_22 dX6_forms_59 hx hF_tr ?_
                refine J_iload_n dX6_forms_62 rfl ?_
                refine Jw_callV1 (q9 := (RX3, TX3, 7)) moX3_begin jw_ml_X6_52 jw_im_X3_begin jw_se_X3_begin hb_tr rfl rfl dX6_forms_63 (w_X3_begin_zk (d - 1) _ tr x1 MT nT sT xxT yyT zzT ST XT YT ZT (by omega) hW  hb_tr ⟨_, hO_tr, hF_MT⟩ ⟨_, hO_tr, hF_nT⟩ ⟨_, hO_tr, hF_sT⟩ ⟨_, hO_tr, hF_xxT⟩ ⟨_, hO_tr, hF_yyT⟩ ⟨_, hO_tr, hF_zzT⟩ ha_ST ha_XT ha_YT ha_ZT) (by omega) (Nat.zero_le _) (Nat.zero_le _) (Nat.le_of_ble_eq_true rfl) (fun r63 V63 h63 => ?_)
                obtain ⟨h63, hX63_0, ⟨fv63_0, hfv63_0, hfp63_0⟩, ⟨fv63_1, hfv63_1, hfp63_1⟩, ⟨fv63_2, hfv63_2, hfp63_2⟩⟩ := h63
                obtain ⟨hW, hx63, hr63⟩ := h63
                have hkr := hkr.trans he.1 (jrt.call hx hF_tr hX63_0)
                have he := he.trans (hx63.sub (jsub_of rfl))
                have hjt := hjt.keep hx63 (jdis_of rfl)
                have hfk := hfk.keep hx63 (jdis_of rfl)
                have ha0 := ha0.mono hx63.1
                have htlk := htlk.mono hx63.1
                have hb_tr := hb_tr.mono hx63.1
                have hb_sT := hb_sT.mono hx63.1
                have hb_xxT := hb_xxT.mono hx63.1
                have hb_yyT := hb_yyT.mono hx63.1
                have hb_zzT := hb_zzT.mono hx63.1
                have hbt := hbt.mono hx63.1
                have hbq3 := hbq3.mono hx63.1
                have hbq4 := hbq4.mono hx63.1
                have hbq5 := hbq5.mono hx63.1
                have hbq6 := hbq6.mono hx63.1
                have hbq7 := hbq7.mono hx63.1
                have hbfo := hbfo.mono hx63.1
                have hx := hx63.2 _ _ hx (jnot_of rfl)
                have hKx := hKx.mono hx63.1
                obtain ⟨fs63tr, hOfs63tr, hRfs63tr⟩ := hx63.1.keep hO_tr
                have hKfs63tr : jokO _ (jFs 1) fs63tr := hW _ _ id hOfs63tr
                have hFfs63tr_1 := hRfs63tr _ _ hF_sT
                have hFfs63tr_2 := hRfs63tr _ _ hF_xxT
                have hFfs63tr_3 := hRfs63tr _ _ hF_yyT
                have hFfs63tr_4 := hRfs63tr _ _ hF_zzT
                have hOfs23t := hx63.2 _ _ hOfs23t (jnot_of rfl)
                have hKfs23t := hKfs23t.mono hx63.1
                have ha_ST := hx63.2 _ _ ha_ST (jnot_of rfl)
                have ha_XT := hx63.2 _ _ ha_XT (jnot_of rfl)
                have ha_YT := hx63.2 _ _ ha_YT (jnot_of rfl)
                have ha_ZT := hx63.2 _ _ ha_ZT (jnot_of rfl)
                have htl2 := hx63.2 _ _ htl2 (jnot_of rfl)
                have d8 := hx63.2 _ _ d8 (jnot_of rfl)
                have a4 := hx63.2 _ _ a4 (jnot_of rfl)
                have a5 := hx63.2 _ _ a5 (jnot_of rfl)
                have a6 := hx63.2 _ _ a6 (jnot_of rfl)
                have a7 := hx63.2 _ _ a7 (jnot_of rfl)
                cases hr63
                have hFv63_0 := hfv63_0.get hOfs63tr
                have hsb63_0 : MT = fv63_0 := (jI_inj.mp hfp63_0).symm
                subst hsb63_0
                have hFv63_1 := hfv63_1.get hOfs63tr
                have hsb63_1 : x1 = fv63_1 := (jI_inj.mp hfp63_1).symm
                subst hsb63_1
                have hFv63_2 := hfv63_2.get hOfs63tr
                have hzf63_2 : jEq fv63_2.toInt (0) := hfp63_2
                clear hfp63_2
                refine J_aload_n dX6_forms_66 rfl ?_
                refine J_get jf_X6_176 dX6_forms_67 hOfs23t hFfs23t_8 ?_
                refine J_iload_n dX6_forms_70 rfl ?_
                refine J_aload_n dX6_forms_71 rfl ?_
                refine J_get jf_X6_22 dX6_forms_72 hx hF_tr ?_
                refine J_iload_n dX6_forms_75 rfl ?_
                refine Jz_iconst 0 dX6_forms_76 (by decide) (fun y76 he76 => ?_)
                refine J_callSN3 moX1_countForms (host := "WalkGrounds") (List.mem_of_getElem? (i := 5) rfl) jw_st_X1_countForms dX6_forms_77 (w_X1_countForms_z 9 (d - 1) _ tr x2 y76 MT x1 fv63_2 sT xxT yyT zzT ST XT YT ZT (by omega) hW hb_tr (by (try simp only [he76.eq, true_and, and_true]) <;> omega) (by (try simp only [he76.eq, true_and, and_true]) <;> omega) ⟨_, hOfs63tr, hFv63_0⟩ ⟨_, hOfs63tr, hFv63_1⟩ ⟨_, hOfs63tr, hFv63_2⟩ ⟨_, hOfs63tr, hFfs63tr_1⟩ ⟨_, hOfs63tr, hFfs63tr_2⟩ ⟨_, hOfs63tr, hFfs63tr_3⟩ ⟨_, hOfs63tr, hFfs63tr_4⟩ ha_ST ha_XT ha_YT ha_ZT (by omega) (by omega) (by omega) (by rw [hzf63_2.eq, he76.eq]) (by rw [he76.eq]; omega) (by omega) (fun j9 hj9 => by rw [hzf63_2.eq] at hj9; omega) (by rw [hzf63_2.eq]; intro i hi; rw [show i = 0 by omega]; exact ⟨hz0, hz1, hz2⟩) (by rw [hzf63_2.eq]; exact jav.zero) (by (try simp only [he76.eq, hzf63_2.eq, true_and, and_true]) <;> omega)) (by omega) (Nat.zero_le _) (Nat.zero_le _) (Nat.le_of_ble_eq_true rfl) (fun r77 V77 h77 => ?_)
                obtain ⟨h77, hX77_0, hX77_1, hX77_2, ⟨fv77_0, hfv77_0, hfp77_0⟩, ⟨fv77_1, hfv77_1, hfp77_1⟩, ⟨fv77_2, hfv77_2, hfp77_2⟩⟩ := h77
                obtain ⟨hW, hx77, hr77⟩ := h77
                have hkr := hkr.trans he.1 (jrt.call hx hF_tr hX77_1)
                have he := he.trans (hx77.sub (jsub_of rfl))
                have hjt := hjt.keep hx77 (jdis_of rfl)
                have hfk := hfk.keep hx77 (jdis_of rfl)
                have ha0 := ha0.mono hx77.1
                have htlk := htlk.mono hx77.1
                have hb_tr := hb_tr.mono hx77.1
                have hb_sT := hb_sT.mono hx77.1
                have hb_xxT := hb_xxT.mono hx77.1
                have hb_yyT := hb_yyT.mono hx77.1
                have hb_zzT := hb_zzT.mono hx77.1
                have hbt := hbt.mono hx77.1
                have hbq3 := hbq3.mono hx77.1
                have hbq4 := hbq4.mono hx77.1
                have hbq5 := hbq5.mono hx77.1
                have hbq6 := hbq6.mono hx77.1
                have hbq7 := hbq7.mono hx77.1
                have hbfo := hbfo.mono hx77.1
                have hx := hx77.2 _ _ hx (jnot_of rfl)
                have hKx := hKx.mono hx77.1
                obtain ⟨fs77tr, hOfs77tr, hRfs77tr⟩ := hx77.1.keep hOfs63tr
                have hKfs77tr : jokO _ (jFs 1) fs77tr := hW _ _ id hOfs77tr
                have hFfs77tr_1 := hRfs77tr _ _ hFfs63tr_1
                have hFfs77tr_2 := hRfs77tr _ _ hFfs63tr_2
                have hFfs77tr_3 := hRfs77tr _ _ hFfs63tr_3
                have hFfs77tr_4 := hRfs77tr _ _ hFfs63tr_4
                have hOfs23t := hx77.2 _ _ hOfs23t (jnot_of rfl)
                have hKfs23t := hKfs23t.mono hx77.1
                have htl2 := hx77.2 _ _ htl2 (jnot_of rfl)
                have d8 := hx77.2 _ _ d8 (jnot_of rfl)
                have a4 := hx77.2 _ _ a4 (jnot_of rfl)
                have a5 := hx77.2 _ _ a5 (jnot_of rfl)
                have a6 := hx77.2 _ _ a6 (jnot_of rfl)
                have a7 := hx77.2 _ _ a7 (jnot_of rfl)
                obtain ⟨y77, rfl, hl77, hh77, hP77_0⟩ := hr77
                clear hl77 hh77
                try simp only [he76.eq, hzf63_2.eq] at hP77_0
                have hFv77_0 := hfv77_0.get hOfs77tr
                try simp only [he76.eq, hzf63_2.eq] at hfp77_0
                have hzf77_0 : jEq fv77_0.toInt ((0)) := hfp77_0
                clear hfp77_0
                have hFv77_1 := hfv77_1.get hOfs77tr
                try simp only [he76.eq, hzf63_2.eq] at hfp77_1
                have hsb77_1 : MT = fv77_1 := (jI_inj.mp hfp77_1).symm
                subst hsb77_1
                have hFv77_2 := hfv77_2.get hOfs77tr
                try simp only [he76.eq, hzf63_2.eq] at hfp77_2
                have hsb77_2 : x1 = fv77_2 := (jI_inj.mp hfp77_2).symm
                subst hsb77_2
                have hval : y77.toInt = ((jfo (j : Int) x2.toInt.toNat : Nat) : Int) := by
                  rw [hP77_0, show (x2.toInt - 0).toNat = x2.toInt.toNat by omega, hgj]
                  exact congrArg (fun z : Nat => (z : Int)) (jfc_congr _ (fun q hq => absurd hq (by omega)))
                refine J_callS3 moX6_put jw_ml_X6_183 jw_st_X6_put dX6_forms_80 (w_X6_put_z (d - 1) _ fo x2 y77 hW d8 (WT_rngI (r := (-2147483648, 2147483647)) hW id rfl d8).1 rfl rfl (by omega)) (by omega) (Nat.zero_le _) (Nat.zero_le _) (Nat.le_of_ble_eq_true rfl) (fun r80 V80 h80 => ?_)
                obtain ⟨rfl, hW, hx80, hB80, G80, hA80, hp80, ho80⟩ := h80
                obtain ⟨hN80, hv80⟩ := WT_rngI (r := (-2147483648, 2147483647)) hW id rfl hA80
                clear hN80
                have hkr := hkr.trans he.1 (jrt.of hx80 (jdis_of rfl))
                have he := he.trans (hx80.sub (jsub_of rfl))
                have ha0 := ha0.mono hx80.1
                have htlk := htlk.mono hx80.1
                have hb_tr := hb_tr.mono hx80.1
                have hb_sT := hb_sT.mono hx80.1
                have hb_xxT := hb_xxT.mono hx80.1
                have hb_yyT := hb_yyT.mono hx80.1
                have hb_zzT := hb_zzT.mono hx80.1
                have hbt := hbt.mono hx80.1
                have hbq3 := hbq3.mono hx80.1
                have hbq4 := hbq4.mono hx80.1
                have hbq5 := hbq5.mono hx80.1
                have hbq6 := hbq6.mono hx80.1
                have hbq7 := hbq7.mono hx80.1
                have hbfo := hbfo.mono hx80.1
                have hx := hx80.2 _ _ hx (jnot_of rfl)
                have hKx := hKx.mono hx80.1
                have hOfs77tr := hx80.2 _ _ hOfs77tr (jnot_of rfl)
                have hKfs77tr := hKfs77tr.mono hx80.1
                have hOfs23t := hx80.2 _ _ hOfs23t (jnot_of rfl)
                have hKfs23t := hKfs23t.mono hx80.1
                have htl2 := hx80.2 _ _ htl2 (jnot_of rfl)
                have a4 := hx80.2 _ _ a4 (jnot_of rfl)
                have a5 := hx80.2 _ _ a5 (jnot_of rfl)
                have a6 := hx80.2 _ _ a6 (jnot_of rfl)
                have a7 := hx80.2 _ _ a7 (jnot_of rfl)
                have hjt := hjt.keep hx80 (jdis_of rfl)
                have hfk := hfk.put hx80 hB80
                · refine J_aload_n dX6_forms_83 rfl ?_
                  refine J_get jf_X6_176 dX6_forms_84 hOfs23t hFfs23t_8 ?_
                  refine J_iload_n dX6_forms_87 rfl ?_
                  refine J_callS2 moX6_cell jw_ml_X6_110 jw_st_X6_cell dX6_forms_88 (w_X6_cell_x (d - 1) _ fo x2 hA80 (WT_rngI (r := (-2147483648, 2147483647)) hW id rfl hA80).1 rfl (by omega) (by omega)) (by omega) (Nat.zero_le _) (Nat.zero_le _) (Nat.le_of_ble_eq_true rfl) (fun r88 V88 h88 => ?_)
                  obtain ⟨⟨y88, rfl, hf88⟩, hE88⟩ := h88
                  have hE88 := hE88.symm
                  subst hE88
                  have hz88 : jEq y88.toInt (G80 (x2.toInt).toNat).toInt := by rw [← hf88]; rfl
                  clear hf88
                  · exact J_ret (r := some (.int _)) dX6_forms_91 ⟨rfl, _, rfl, rfl⟩ (⟨⟨hW, he, ⟨_, rfl, (j_rng _).1, (j_rng _).2, (Or.inr ⟨by omega, Or.inr ⟨(fun z => z.elim (fun q => absurd q (Nat.not_lt.mpr hle.o)) (fun q => absurd q (by have w := hh9.o.1; omega))), by rw [hz88.eq, hp80 (by omega)]; exact hval⟩⟩)⟩⟩, hjt, (hup _ _ hfk hA80 (fun m hm => by by_cases e : m = x2.toInt.toNat; (subst e; exact Or.inr (by rw [hp80 (by omega)]; exact hval)); (rw [ho80 m e]; exact hfo8 m hm))), ⟨_, htl2, fun i hi => va_up_ne _ _ hi, _, va_up_self _ _ _⟩, hkr⟩)
          · refine Jz_bipush (-5) dX6_forms_43 (by decide) (fun y43 he43 => ?_)
            exact J_ret (r := some (.int _)) dX6_forms_45 ⟨rfl, _, rfl, rfl⟩ (⟨⟨hW, he, ⟨_, rfl, (j_rng _).1, (j_rng _).2, (Or.inr ⟨by omega, Or.inl ⟨Or.inr (by have w := hh9.o.1; omega), he43.eq⟩⟩)⟩⟩, hjt, htf0.keep hx23 (jdis_of rfl), ⟨_, htl2, fun i hi => va_up_ne _ _ hi, _, va_up_self _ _ _⟩, hkr⟩)
    · refine Jz_bipush (-2) dX6_forms_18 (by decide) (fun y18 he18 => ?_)
      exact J_ret (r := some (.int _)) dX6_forms_20 ⟨rfl, _, rfl, rfl⟩ (⟨⟨hW, he, ⟨_, rfl, (j_rng _).1, (j_rng _).2, (Or.inl ⟨by omega, he18.eq⟩)⟩⟩, hjt0, htf0, ⟨_, htl2, fun i hi => va_up_ne _ _ hi, _, va_up_self _ _ _⟩, hkr⟩)
set_option maxRecDepth 100000 in
set_option maxHeartbeats 8000000 in
theorem w_X7_power_z {tS : jTS} (d : Nat) (V0 : jH) (x0 : Int32) (x1 : Int32) (hd : 0 ≤ d)  (hp0 : 3 ≤ x0.toInt) (hp1 : x0.toInt ≤ 6) (hp2 : 0 ≤ x1.toInt) (hp3 : x1.toInt ≤ 7) : jTot tS mX7_power d [.int x0, .int x1] V0 0 0 (fun r V => (fun r _ => ∃ y : Int32, r = some (.int y) ∧ ((-2147483648) ≤ y.toInt) ∧ (y.toInt ≤ 2147483647) ∧ (y.toInt = ((x0.toInt.toNat ^ x1.toInt.toNat : Nat) : Int))) r V ∧ V = V0) := by
  refine jTot.of_J [some (.int x0), some (.int x1), none, none] moX7_power (Nat.le_of_ble_eq_true rfl) rfl ?_
  have hrx0 := j_rng x0
  have hrx1 := j_rng x1
  refine Jz_iconst 1 dX7_power_0 (by decide) (fun y0 he0 => ?_)
  refine J_istore_n dX7_power_1 rfl (by decide) ?_
  refine Jz_iconst 0 dX7_power_2 (by decide) (fun y2 he2 => ?_)
  refine J_istore_n dX7_power_3 rfl (by decide) ?_
  have L4 : ∀ (N : Nat) (i2n4 : Int32) (i3n4 : Int32), (0 ≤ i3n4.toInt ∧ i3n4.toInt ≤ x1.toInt) → (i2n4.toInt = ((x0.toInt.toNat ^ i3n4.toInt.toNat : Nat) : Int)) → (300 - i3n4.toInt).toNat < N → J tS mX7_power d 4 [some (.int x0), some (.int x1), some (.int i2n4), some (.int i3n4)] [] V0 0 0 (fun r V => (fun r _ => ∃ y : Int32, r = some (.int y) ∧ ((-2147483648) ≤ y.toInt) ∧ (y.toInt ≤ 2147483647) ∧ (y.toInt = ((x0.toInt.toNat ^ x1.toInt.toNat : Nat) : Int))) r V ∧ V = V0) := by
    intro N
    induction N with
    | zero => intro i2n4 i3n4  hi3 hpw hm; exact absurd hm (Nat.not_lt_zero _)
    | succ N ih =>
      intro i2n4 i3n4  hi3 hpw hm
      have ih4 := ih
      have hri3 := j_rng i3n4
      refine J_iload_n dX7_power_4 rfl ?_
      refine J_iload_n dX7_power_5 rfl ?_
      refine Jz_icmp_ge (tgt := 19) jEq.rf jEq.rf dX7_power_6 (by decide) (fun c6 => ?_) (fun c6 => ?_)
      · refine J_iload_n dX7_power_19 rfl ?_
        exact J_ret (r := some (.int _)) dX7_power_20 ⟨rfl, _, rfl, rfl⟩ (⟨⟨_, rfl, (j_rng _).1, (j_rng _).2, (by rw [hpw, show i3n4.toInt.toNat = x1.toInt.toNat by omega])⟩, rfl⟩)
      · refine J_iload_n dX7_power_9 rfl ?_
        refine J_iload_n dX7_power_10 rfl ?_
        have hq1 : i2n4.toInt * x0.toInt = ((x0.toInt.toNat ^ (i3n4.toInt.toNat + 1) : Nat) : Int) := jpw_next hpw (by omega)
        have hq2 : x0.toInt.toNat ^ (i3n4.toInt.toNat + 1) ≤ 279936 := jpow7 (by omega) (by omega)
        have hq3 : 0 ≤ i2n4.toInt * x0.toInt ∧ i2n4.toInt * x0.toInt ≤ 279936 := by rw [hq1]; exact ⟨Int.natCast_nonneg _, by omega⟩
        refine Jz_imul jEq.rf jEq.rf dX7_power_11 (by omega) (by omega) (fun y11 he11 => ?_)
        refine J_istore_n dX7_power_12 rfl (by decide) ?_
        refine Jz_iinc 1 dX7_power_13 rfl rfl (by decide) jEq.rf (by decide) (by omega) (by omega) (fun y13 he13 => ?_)
        refine J_goto (tgt := 4) dX7_power_16 (by decide) ?_
        refine J.mask [true, true, true, true] ?_
        exact ih4  y11 y13  (by (try simp only [he11.eq, he13.eq, true_and, and_true]) <;> omega) (by rw [he11.eq, hq1, he13.eq, show (i3n4.toInt + 1).toNat = i3n4.toInt.toNat + 1 by omega]) (by (try simp only [he11.eq, he13.eq, true_and, and_true]) <;> omega)
  refine J.mask [true, true, true, true] ?_
  exact L4 _  y0 y2    (by (try simp only [he0.eq, he2.eq, true_and, and_true]) <;> omega) (by rw [he0.eq, he2.eq]; rfl) (Nat.lt_succ_self _)
set_option maxRecDepth 100000 in
set_option maxHeartbeats 8000000 in
theorem w_X7_rowOf_z {tS : jTS} (d : Nat) (V0 : jH) (a0 : Nat) (x1 : Int32) (x2 : Int32) (x3 : Int32) (q22 : Int32) (rw : Nat) (RW : Nat → Int32) (hd : 1 ≤ d) (hW : WT V0) (ha0 : jis V0 (.inr 5) a0) (hf_q22 : jfI V0 a0 5 22 q22) (hr_rw : jfR V0 a0 5 4 rw) (ha_RW : V0 rw = some (.inl (17, 120, .inl RW))) (hp0 : 0 ≤ x1.toInt) (hp1 : x1.toInt ≤ 3) (hp2 : 0 ≤ x2.toInt) (hp3 : x2.toInt ≤ 7) (hp4 : 0 ≤ x3.toInt) : jTot tS mX7_rowOf d [.ref a0, .int x1, .int x2, .int x3] V0 0 0 (fun r V => (jPost [.inr 5, .inl 17] V0 rV) r V ∧ (∃ R2 : Nat → Int32, V rw = some (.inl (17, 120, .inl R2)) ∧ ∀ i : Nat, i < x2.toInt.toNat → (R2 i).toInt = jdg9 (jdir x1.toInt).toNat x2.toInt.toNat x3.toInt.toNat i) ∧ jkc 5 [0, 23, 24] V0 V ∧ (∃ v5 : Int32, jfI V a0 5 5 v5 ∧ (v5.toInt = x2.toInt)) ∧ (∃ q2 : Int32, jfI V a0 5 22 q2 ∧ (q2.toInt = q22.toInt))) := by
  refine jTot.of_J [some (.ref a0), some (.int x1), some (.int x2), some (.int x3), none, none] moX7_rowOf (Nat.le_of_ble_eq_true rfl) rfl ?_
  have hrx1 := j_rng x1
  have hrx2 := j_rng x2
  have hrx3 := j_rng x3
  have he : jeff [.inr 5, .inl 17] V0 V0 := jeff.refl _ _
  have hkp : jkc 5 [0, 23, 24] V0 V0 := jkc.rf
  obtain ⟨fs_a0, hO_a0, hK_a0⟩ := WT_obj hW id ha0
  have hF_q22 := hf_q22.get hO_a0
  have hrq22 : (-2147483648) ≤ q22.toInt ∧ q22.toInt ≤ 2147483647 := jok_rngI hK_a0 rfl hF_q22
  have hF_rw := hr_rw.get hO_a0
  obtain ⟨w_rw, hFq_rw, b_rw, hbq_rw, hb_rw⟩ := hK_a0.2 4 (.inr (some (.inl 17))) rfl
  cases hF_rw.symm.trans (hFq_rw.trans (congrArg some hbq_rw))
  obtain ⟨hN_RW, hv_RW⟩ := WT_rngI (r := ((-2147483648), 2147483647)) hW id rfl ha_RW
  clear hN_RW
  have hjb : 3 ≤ jdir x1.toInt ∧ jdir x1.toInt ≤ 6 := by have q := jdir_cases x1.toInt; omega
  refine J_aload_n dX7_rowOf_0 rfl ?_
  refine J_iload_n dX7_rowOf_1 rfl ?_
  refine Jz_putI hO_a0 hW id rfl jf_X7_109 jt_X7_5 jEq.rf dX7_rowOf_2 (by omega) (by omega) (fun _ _ => ⟨rfl, rfl⟩) (fun V2 fs2 hW hx2 hO2 hS2 hT2 hB2 => ?_)
  have hK2 : jokO _ (jFs 5) fs2 := hW _ _ id hO2
  have hF2_22 := (hT2 22 (by decide)).trans hF_q22
  have hF2_4 := (hT2 4 (by decide)).trans hF_rw
  have he := he.trans (hx2.sub (jsub_of rfl))
  have hkp := hkp.trans (jkc.put hO_a0 hO2 hT2 hB2 (by decide))
  have ha0 := ha0.mono hx2.1
  have hb_rw := hb_rw.mono hx2.1
  have ha_RW := hx2.2 _ _ ha_RW (jnot_of rfl)
  refine J_iload_n dX7_rowOf_5 rfl ?_
  refine J_istore dX7_rowOf_6 rfl (by decide) ?_
  refine J_iload_n dX7_rowOf_8 rfl ?_
  refine Jz_iconst 1 dX7_rowOf_9 (by decide) (fun y9 he9 => ?_)
  refine Jz_isub jEq.rf he9 dX7_rowOf_10 (by omega) (by omega) (fun y10 he10 => ?_)
  refine J_istore dX7_rowOf_11 rfl (by decide) ?_
  have L13 : ∀ (N : Nat) (V : jH) (i4n13 : Int32) (i5n13 : Int32) (F17n13 : Nat → Int32), WT V → jeff [.inr 5, .inl 17] V0 V → (jis V (.inr 5) a0) → (jis V (.inl 17) rw) → (jkc 5 [0, 23, 24] V0 V) → (V a0 = some (.inr (5, fs2))) → (jokO V (jFs 5) fs2) → (V rw = some (.inl (17, 120, .inl F17n13))) → (-1 ≤ i5n13.toInt ∧ i5n13.toInt ≤ x2.toInt - 1) → (i4n13.toInt = ((x3.toInt.toNat / (jdir x1.toInt).toNat ^ (x2.toInt - 1 - i5n13.toInt).toNat : Nat) : Int)) → (∀ i : Nat, i5n13.toInt < (i : Int) → (i : Int) < x2.toInt → (F17n13 i).toInt = jdg9 (jdir x1.toInt).toNat x2.toInt.toNat x3.toInt.toNat i) → (i5n13.toInt + 2).toNat < N → J tS mX7_rowOf d 13 [some (.ref a0), some (.int x1), some (.int x2), some (.int x3), some (.int i4n13), some (.int i5n13)] [] V 0 0 (fun r V => (jPost [.inr 5, .inl 17] V0 rV) r V ∧ (∃ R2 : Nat → Int32, V rw = some (.inl (17, 120, .inl R2)) ∧ ∀ i : Nat, i < x2.toInt.toNat → (R2 i).toInt = jdg9 (jdir x1.toInt).toNat x2.toInt.toNat x3.toInt.toNat i) ∧ jkc 5 [0, 23, 24] V0 V ∧ (∃ v5 : Int32, jfI V a0 5 5 v5 ∧ (v5.toInt = x2.toInt)) ∧ (∃ q2 : Int32, jfI V a0 5 22 q2 ∧ (q2.toInt = q22.toInt))) := by
    intro N
    induction N with
    | zero => intro V i4n13 i5n13 F17n13 hW he ha0 hb_rw hkp hO2 hK2 hAF17n13 hi5 hlf hrw hm; exact absurd hm (Nat.not_lt_zero _)
    | succ N ih =>
      intro V i4n13 i5n13 F17n13 hW he ha0 hb_rw hkp hO2 hK2 hAF17n13 hi5 hlf hrw hm
      have ih13 := ih
      have hri5 := j_rng i5n13
      obtain ⟨hNF17n13, hvF17n13⟩ := WT_rngI (r := ((-2147483648), 2147483647)) hW id rfl hAF17n13
      clear hNF17n13
      refine J_iload dX7_rowOf_13 rfl ?_
      refine Jz_if_lt (tgt := 47) jEq.rf dX7_rowOf_15 (by decide) (fun c15 => ?_) (fun c15 => ?_)
      · exact J_ret (r := none) dX7_rowOf_47 ⟨rfl, rfl⟩ (⟨⟨hW, he, rfl⟩, ⟨F17n13, hAF17n13, fun i hi => hrw i (by omega) (by omega)⟩, hkp, ⟨_, ⟨_, hO2, hS2⟩, (by omega)⟩, ⟨_, ⟨_, hO2, hF2_22⟩, (by omega)⟩⟩)
      · have hl0 : 0 ≤ i4n13.toInt := by rw [hlf]; exact Int.natCast_nonneg _
        refine J_aload_n dX7_rowOf_18 rfl ?_
        refine J_get jf_X7_19 dX7_rowOf_19 hO2 hF2_4 ?_
        refine J_iload dX7_rowOf_22 rfl ?_
        refine J_iload dX7_rowOf_24 rfl ?_
        refine J_iload_n dX7_rowOf_26 rfl ?_
        refine J_callS1 moX7_directions jw_ml_X7_133 jw_st_X7_directions dX7_rowOf_27 (w_X7_directions (d - 1) _ x1 (by omega)   ) (by omega) (Nat.zero_le _) (Nat.zero_le _) (Nat.le_of_ble_eq_true rfl) (fun r27 V27 h27 => ?_)
        obtain ⟨⟨y27, rfl, hl27, hh27, hP27_0⟩, hE27⟩ := h27
        have hE27 := hE27.symm
        subst hE27
        have hz27 : jEq y27.toInt (jdir (x1.toInt)) := hP27_0
        simp only [hP27_0] at hl27 hh27
        clear hP27_0
        have hmd := Int.emod_lt_of_pos i4n13.toInt (show 0 < jdir x1.toInt by omega)
        have hmd0 := Int.emod_nonneg i4n13.toInt (show jdir x1.toInt ≠ 0 by omega)
        refine Jz_iremC jEq.rf hz27 dX7_rowOf_30 (by omega) (by omega) (fun y30 he30 => ?_)
        refine Jz_iast (r := ((-2147483648), 2147483647)) jEq.rf he30 hW id dX7_rowOf_31 hAF17n13 rfl rfl (by omega) (by omega) (by omega) (by omega) (fun V31 G31 hW hx31 hA31 hp31 ho31 => ?_)
        obtain ⟨hN31, hv31⟩ := WT_rngI (r := ((-2147483648), 2147483647)) hW id rfl hA31
        clear hN31
        have he := he.trans (hx31.sub (jsub_of rfl))
        have hkp := hkp.trans (jkc.of hx31 (jnot_of rfl))
        have ha0 := ha0.mono hx31.1
        have hb_rw := hb_rw.mono hx31.1
        have hO2 := hx31.2 _ _ hO2 (jnot_of rfl)
        have hK2 := hK2.mono hx31.1
        refine J_iload dX7_rowOf_32 rfl ?_
        refine J_iload_n dX7_rowOf_34 rfl ?_
        refine J_callS1 moX7_directions jw_ml_X7_133 jw_st_X7_directions dX7_rowOf_35 (w_X7_directions (d - 1) _ x1 (by omega)   ) (by omega) (Nat.zero_le _) (Nat.zero_le _) (Nat.le_of_ble_eq_true rfl) (fun r35 V35 h35 => ?_)
        obtain ⟨⟨y35, rfl, hl35, hh35, hP35_0⟩, hE35⟩ := h35
        have hE35 := hE35.symm
        subst hE35
        have hz35 : jEq y35.toInt (jdir (x1.toInt)) := hP35_0
        simp only [hP35_0] at hl35 hh35
        clear hP35_0
        refine Jz_idivC jEq.rf hz35 dX7_rowOf_38 (by omega) (by omega) (fun y38 he38 => ?_)
        refine J_istore dX7_rowOf_39 rfl (by decide) ?_
        refine Jz_iinc (-1) dX7_rowOf_41 rfl rfl (by decide) jEq.rf (by decide) (by omega) (by omega) (fun y41 he41 => ?_)
        refine J_goto (tgt := 13) dX7_rowOf_44 (by decide) ?_
        refine J.mask [true, true, true, true, true, true] ?_
        exact ih13 _ y38 y41 G31 hW he ha0 hb_rw hkp hO2 hK2 hA31 (by (try simp only [he38.eq, he41.eq, true_and, and_true]) <;> omega) (by rw [he38.eq, he41.eq, hlf, show (x2.toInt - 1 - (i5n13.toInt + (-1))).toNat = (x2.toInt - 1 - i5n13.toInt).toNat + 1 by omega]; exact jdv_step (by omega)) (fun i h1 h2 => by rw [he41.eq] at h1; by_cases c : (i : Int) = i5n13.toInt; (have e : i = i5n13.toInt.toNat := by omega); subst e; rw [hp31, he30.eq, hlf]; exact jdv_dig (by omega) (by omega); rw [ho31 i (by omega)]; exact hrw i (by omega) h2) (by (try simp only [he38.eq, he41.eq, true_and, and_true]) <;> omega)
  refine J.mask [true, true, true, true, true, true] ?_
  exact L13 _ _ x3 y10 RW hW he ha0 hb_rw hkp hO2 hK2 ha_RW (by (try simp only [he10.eq, true_and, and_true]) <;> omega) (by rw [he10.eq, show (x2.toInt - 1 - (x2.toInt - 1)).toNat = 0 by omega, Nat.pow_zero, Nat.div_one]; exact (Int.toNat_of_nonneg (by omega)).symm) (fun i h1 h2 => by rw [he10.eq] at h1; omega) (Nat.lt_succ_self _)
set_option maxRecDepth 100000 in
set_option maxHeartbeats 8000000 in
theorem w_X7_isForm_z {tS : jTS} (d : Nat) (V0 : jH) (a0 : Nat) (x1 : Int32) (n : Int32) (rw : Nat) (fm : Nat) (RW : Nat → Int32) (FM : Nat → Int32) (hd : 4 ≤ d) (hW : WT V0) (ha0 : jis V0 (.inr 5) a0) (hf_n : jfI V0 a0 5 5 n) (hr_rw : jfR V0 a0 5 4 rw) (hr_fm : jfR V0 a0 5 9 fm) (ha_RW : V0 rw = some (.inl (17, 120, .inl RW))) (ha_FM : V0 fm = some (.inl (21, 60, .inl FM))) (hp0 : 0 ≤ x1.toInt) (hp1 : x1.toInt ≤ 3) (hp2 : n.toInt ≤ 60) (hp3 : ∀ j : Nat, (j : Int) < n.toInt → 0 ≤ (RW j).toInt ∧ (RW j).toInt < jdir x1.toInt) : jTot tS mX7_isForm d [.ref a0, .int x1] V0 0 0 (jPost [.inl 21] V0 (fun r _ => ∃ y : Int32, r = some (.int y) ∧ (0 ≤ y.toInt) ∧ (y.toInt ≤ 1) ∧ ((y.toInt = 1 ∧ jow x1.toInt (fun q => (RW q).toInt) n.toInt.toNat) ∨ (y.toInt = 0 ∧ ¬ jow x1.toInt (fun q => (RW q).toInt) n.toInt.toNat)))) := by
  refine jTot.of_J [some (.ref a0), some (.int x1), none] moX7_isForm (Nat.le_of_ble_eq_true rfl) rfl ?_
  have hrx1 := j_rng x1
  have he : jeff [.inl 21] V0 V0 := jeff.refl _ _
  obtain ⟨fs_a0, hO_a0, hK_a0⟩ := WT_obj hW id ha0
  have hF_n := hf_n.get hO_a0
  have hrn : 0 ≤ n.toInt ∧ n.toInt ≤ 120 := jok_rngI hK_a0 rfl hF_n
  have hF_rw := hr_rw.get hO_a0
  obtain ⟨w_rw, hFq_rw, b_rw, hbq_rw, hb_rw⟩ := hK_a0.2 4 (.inr (some (.inl 17))) rfl
  cases hF_rw.symm.trans (hFq_rw.trans (congrArg some hbq_rw))
  have hF_fm := hr_fm.get hO_a0
  obtain ⟨w_fm, hFq_fm, b_fm, hbq_fm, hb_fm⟩ := hK_a0.2 9 (.inr (some (.inl 21))) rfl
  cases hF_fm.symm.trans (hFq_fm.trans (congrArg some hbq_fm))
  obtain ⟨hN_RW, hv_RW⟩ := WT_rngI (r := ((-2147483648), 2147483647)) hW id rfl ha_RW
  clear hN_RW
  obtain ⟨hN_FM, hv_FM⟩ := WT_rngI (r := ((-2147483648), 2147483647)) hW id rfl ha_FM
  clear hN_FM
  have htc : 0 ≤ jtur x1.toInt := by have q := jtur_cases x1.toInt; omega
  refine J_aload_n dX7_isForm_0 rfl ?_
  refine J_iload_n dX7_isForm_1 rfl ?_
  refine Jw_callV1 (q9 := (RX7, TX7, 34)) moX7_findForm jw_ml_X7_174 jw_im_X7_findForm jw_se_X7_findForm ha0 rfl rfl dX7_isForm_2 (w_X7_findForm_z (d - 1) _ a0 x1 n rw fm RW FM (by omega) hW  ha0 ⟨_, hO_a0, hF_n⟩ ⟨_, hO_a0, hF_rw⟩ ⟨_, hO_a0, hF_fm⟩ ha_RW ha_FM (by omega) (by omega) (by omega) hp3) (by omega) (Nat.zero_le _) (Nat.zero_le _) (Nat.le_of_ble_eq_true rfl) (fun r2 V2 h2 => ?_)
  obtain ⟨h2, hX2_0⟩ := h2
  obtain ⟨hW, hx2, hr2⟩ := h2
  have he := he.trans (hx2.sub (jsub_of rfl))
  have ha0 := ha0.mono hx2.1
  have hb_rw := hb_rw.mono hx2.1
  have hb_fm := hb_fm.mono hx2.1
  have hO_a0 := hx2.2 _ _ hO_a0 (jnot_of rfl)
  have hK_a0 := hK_a0.mono hx2.1
  have ha_RW := hx2.2 _ _ ha_RW (jnot_of rfl)
  cases hr2
  obtain ⟨F2, hF2, hFe2⟩ := hX2_0
  obtain ⟨hN_F2, hv_F2⟩ := WT_rngI (r := ((-2147483648), 2147483647)) hW id rfl hF2
  clear hN_F2
  refine Jz_iconst 0 dX7_isForm_5 (by decide) (fun y5 he5 => ?_)
  refine J_istore_n dX7_isForm_6 rfl (by decide) ?_
  have L7 : ∀ (N : Nat) (i2n7 : Int32), (0 ≤ i2n7.toInt ∧ i2n7.toInt ≤ n.toInt) → (∀ j : Nat, (j : Int) < i2n7.toInt → (F2 j).toInt = (RW j).toInt) → (300 - i2n7.toInt).toNat < N → J tS mX7_isForm d 7 [some (.ref a0), some (.int x1), some (.int i2n7)] [] V2 0 0 (jPost [.inl 21] V0 (fun r _ => ∃ y : Int32, r = some (.int y) ∧ (0 ≤ y.toInt) ∧ (y.toInt ≤ 1) ∧ ((y.toInt = 1 ∧ jow x1.toInt (fun q => (RW q).toInt) n.toInt.toNat) ∨ (y.toInt = 0 ∧ ¬ jow x1.toInt (fun q => (RW q).toInt) n.toInt.toNat)))) := by
    intro N
    induction N with
    | zero => intro i2n7  hi2 heq hm; exact absurd hm (Nat.not_lt_zero _)
    | succ N ih =>
      intro i2n7  hi2 heq hm
      have ih7 := ih
      have hri2 := j_rng i2n7
      refine J_iload_n dX7_isForm_7 rfl ?_
      refine J_aload_n dX7_isForm_8 rfl ?_
      refine J_get jf_X7_109 dX7_isForm_9 hO_a0 hF_n ?_
      refine Jz_icmp_ge (tgt := 38) jEq.rf jEq.rf dX7_isForm_12 (by decide) (fun c12 => ?_) (fun c12 => ?_)
      · refine Jz_iconst 1 dX7_isForm_38 (by decide) (fun y38 he38 => ?_)
        exact J_ret (r := some (.int _)) dX7_isForm_39 ⟨rfl, _, rfl, (nar_b (by (try simp only [he38.eq, true_and, and_true]) <;> omega) (by (try simp only [he38.eq, true_and, and_true]) <;> omega))⟩ (⟨hW, he, ⟨_, rfl, (by (try simp only [he38.eq, true_and, and_true]) <;> omega), (by (try simp only [he38.eq, true_and, and_true]) <;> omega), (Or.inl ⟨he38.eq, (jow_iff htc).mpr (fun j hj => by rw [← hFe2 j hj]; exact heq j (by omega))⟩)⟩⟩)
      · refine J_aload_n dX7_isForm_15 rfl ?_
        refine J_get jf_X7_31 dX7_isForm_16 hO_a0 hF_fm ?_
        refine J_iload_n dX7_isForm_19 rfl ?_
        refine Jz_iald (r := ((-2147483648), 2147483647)) jEq.rf dX7_isForm_20 hF2 rfl hv_F2 (by omega) (by omega) (fun y20 hf20 hl20 hh20 => ?_)
        dsimp only at hl20 hh20
        clear hl20 hh20
        refine J_aload_n dX7_isForm_21 rfl ?_
        refine J_get jf_X7_19 dX7_isForm_22 hO_a0 hF_rw ?_
        refine J_iload_n dX7_isForm_25 rfl ?_
        refine Jz_iald (r := ((-2147483648), 2147483647)) jEq.rf dX7_isForm_26 ha_RW rfl hv_RW (by omega) (by omega) (fun y26 hf26 hl26 hh26 => ?_)
        dsimp only at hl26 hh26
        clear hl26 hh26
        refine Jz_icmp_eq (tgt := 32) jEq.rf jEq.rf dX7_isForm_27 (by decide) (fun c27 => ?_) (fun c27 => ?_)
        · refine Jz_iinc 1 dX7_isForm_32 rfl rfl (by decide) jEq.rf (by decide) (by omega) (by omega) (fun y32 he32 => ?_)
          refine J_goto (tgt := 7) dX7_isForm_35 (by decide) ?_
          refine J.mask [true, true, true] ?_
          exact ih7  y32  (by (try simp only [he32.eq, true_and, and_true]) <;> omega) (fun j hj => by rw [he32.eq] at hj; by_cases h9 : (j : Int) = i2n7.toInt; (have e : j = i2n7.toInt.toNat := by omega); subst e; rw [hf20, hf26]; exact c27; exact heq j (by omega)) (by (try simp only [he32.eq, true_and, and_true]) <;> omega)
        · refine Jz_iconst 0 dX7_isForm_30 (by decide) (fun y30 he30 => ?_)
          exact J_ret (r := some (.int _)) dX7_isForm_31 ⟨rfl, _, rfl, (nar_b (by (try simp only [he30.eq, true_and, and_true]) <;> omega) (by (try simp only [he30.eq, true_and, and_true]) <;> omega))⟩ (⟨hW, he, ⟨_, rfl, (by (try simp only [he30.eq, true_and, and_true]) <;> omega), (by (try simp only [he30.eq, true_and, and_true]) <;> omega), (Or.inr ⟨he30.eq, fun w => c27 (by rw [← hf20, ← hf26, hFe2 i2n7.toInt.toNat (by omega)]; exact (jow_iff htc).mp w i2n7.toInt.toNat (by omega))⟩)⟩⟩)
  refine J.mask [true, true, true] ?_
  exact L7 _  y5    (by (try simp only [he5.eq, true_and, and_true]) <;> omega) (fun j hj => by rw [he5.eq] at hj; omega) (Nat.lt_succ_self _)
set_option maxRecDepth 100000 in
set_option maxHeartbeats 8000000 in
theorem w_X7_forms_z {tS : jTS} (d : Nat) (V0 : jH) (a0 : Nat) (x1 : Int32) (x2 : Int32) (hd : 5 ≤ d) (hW : WT V0) (ha0 : jis V0 (.inr 5) a0) (hct : jRM V0 a0) (hrf : jRF V0 a0) : jTot tS mX7_forms d [.ref a0, .int x1, .int x2] V0 0 0 (fun r V => (jPost [.inl 17, .inl 18, .inl 19, .inl 20, .inl 21, .inl 23, .inl 24, .inl 25, .inl 26, .inl 27, .inl 40, .inl 41, .inl 46, .inr 5] V0 (fun r _ => ∃ y : Int32, r = some (.int y) ∧ ((-2147483648) ≤ y.toInt) ∧ (y.toInt ≤ 2147483647) ∧ (((0 ≤ x1.toInt ∧ x1.toInt ≤ 3 ∧ 0 ≤ x2.toInt ∧ x2.toInt ≤ 7) ∧ (((600000 < jTT x1.toInt x2.toInt.toNat jL0 ∨ 3000 < (jrq x1.toInt x2.toInt.toNat).1) ∧ y.toInt = -5) ∨ (¬ (600000 < jTT x1.toInt x2.toInt.toNat jL0 ∨ 3000 < (jrq x1.toInt x2.toInt.toNat).1) ∧ y.toInt = ((jfo x1.toInt x2.toInt.toNat : Nat) : Int)))) ∨ (¬ (0 ≤ x1.toInt ∧ x1.toInt ≤ 3 ∧ 0 ≤ x2.toInt ∧ x2.toInt ≤ 7) ∧ y.toInt = -2)))) r V ∧ jRM V a0 ∧ jRF V a0 ∧ jkc 5 [0, 23, 24] V0 V) := by
  refine jTot.of_J [some (.ref a0), some (.int x1), some (.int x2), none, none, none] moX7_forms (Nat.le_of_ble_eq_true rfl) rfl ?_
  have hrx1 := j_rng x1
  have hrx2 := j_rng x2
  have he : jeff [.inl 17, .inl 18, .inl 19, .inl 20, .inl 21, .inl 23, .inl 24, .inl 25, .inl 26, .inl 27, .inl 40, .inl 41, .inl 46, .inr 5] V0 V0 := jeff.refl _ _
  have hkp : jkc 5 [0, 23, 24] V0 V0 := jkc.rf
  obtain ⟨kn, co, sq, rg, bg, se, KN, CO, SQ, RG, BG, SE, ⟨m1, m2, m3, m4, m5, m6⟩, ⟨k1, k2, k3, k4, k5, k6⟩, hsn0, hmo⟩ := id hct
  obtain ⟨ms, hM, g11⟩ := id m1
  have g12 := m2.get hM
  have g13 := m3.get hM
  have g14 := m4.get hM
  have g15 := m5.get hM
  have g16 := m6.get hM
  have hKm : jokO V0 (jFs 5) ms := hW _ _ id hM
  have hbm1 : jis V0 (.inl 40) kn := ⟨_, k1, rfl⟩
  have hbm2 : jis V0 (.inl 23) co := ⟨_, k2, rfl⟩
  have hbm3 : jis V0 (.inl 46) sq := ⟨_, k3, rfl⟩
  have hbm4 : jis V0 (.inl 24) rg := ⟨_, k4, rfl⟩
  have hbm5 : jis V0 (.inl 25) bg := ⟨_, k5, rfl⟩
  have hbm6 : jis V0 (.inl 41) se := ⟨_, k6, rfl⟩
  obtain ⟨fd, rd, FD, RD, f1, f2, d1, d2, w1, w2⟩ := id hrf
  have g18 := f1.get hM
  have g19 := f2.get hM
  have hbfd : jis V0 (.inl 27) fd := ⟨_, d1, rfl⟩
  have hbrd : jis V0 (.inl 28) rd := ⟨_, d2, rfl⟩
  obtain ⟨hNFD, hvFD⟩ := WT_rngI (r := ((-2147483648), 2147483647)) hW id rfl d1
  clear hNFD
  obtain ⟨hNRD, hvRD⟩ := WT_rngI (r := ((-2147483648), 2147483647)) hW id rfl d2
  clear hNRD
  refine J_iload_n dX7_forms_0 rfl ?_
  refine J_callS1 moX7_isGround jw_ml_X7_184 jw_st_X7_isGround dX7_forms_1 (w_X7_isGround_y (d - 1) _ x1 (by omega)   ) (by omega) (Nat.zero_le _) (Nat.zero_le _) (Nat.le_of_ble_eq_true rfl) (fun r1 V1 h1 => ?_)
  obtain ⟨⟨y1, rfl, hl1, hh1, hP1_0⟩, hE1⟩ := h1
  have hE1 := hE1.symm
  subst hE1
  refine Jz_if_eq (tgt := 17) jEq.rf dX7_forms_4 (by decide) (fun c4 => ?_) (fun c4 => ?_)
  · refine Jz_bipush (-2) dX7_forms_17 (by decide) (fun y17 he17 => ?_)
    exact J_ret (r := some (.int _)) dX7_forms_19 ⟨rfl, _, rfl, rfl⟩ (⟨⟨hW, he, ⟨_, rfl, (j_rng _).1, (j_rng _).2, (Or.inr ⟨(by omega), he17.eq⟩)⟩⟩, hct, hrf, hkp⟩)
  · refine J_iload_n dX7_forms_7 rfl ?_
    refine Jz_iconst 0 dX7_forms_8 (by decide) (fun y8 he8 => ?_)
    refine Jz_bipush 7 dX7_forms_9 (by decide) (fun y9 he9 => ?_)
    refine J_callS3 moX7_in jw_ml_X7_105 jw_st_X7_in dX7_forms_11 (w_X7_in_y (d - 1) _ x2 y8 y9 (by omega)   ) (by omega) (Nat.zero_le _) (Nat.zero_le _) (Nat.le_of_ble_eq_true rfl) (fun r11 V11 h11 => ?_)
    obtain ⟨⟨y11, rfl, hl11, hh11, hP11_0⟩, hE11⟩ := h11
    have hE11 := hE11.symm
    subst hE11
    try simp only [he8.eq, he9.eq] at hP11_0
    refine Jz_if_ne (tgt := 20) jEq.rf dX7_forms_14 (by decide) (fun c14 => ?_) (fun c14 => ?_)
    · refine J_aload_n dX7_forms_20 rfl ?_
      refine J_iload_n dX7_forms_21 rfl ?_
      refine J_iload_n dX7_forms_22 rfl ?_
      have hig : ((x1.toInt.toNat : Nat) : Int) = x1.toInt := by omega
      have hix : 21 * x1.toInt.toNat + x2.toInt.toNat = (21 * x1.toInt + x2.toInt).toNat := by omega
      have hmo0 : jmo x1.toInt x2.toInt.toNat KN CO SQ RG BG (21 * x1.toInt + x2.toInt).toNat := by
          have q := hmo x1.toInt.toNat x2.toInt.toNat (by omega) (by omega)
          rw [hig, hix] at q
          exact q
      obtain ⟨w23p4, hF23p4, b23p4, rfl, hb23p4⟩ := hKm.2 4 (.inr (some (.inl 17))) rfl
      obtain ⟨w23p6, hF23p6, b23p6, rfl, hb23p6⟩ := hKm.2 6 (.inr (some (.inl 18))) rfl
      obtain ⟨w23p7, hF23p7, b23p7, rfl, hb23p7⟩ := hKm.2 7 (.inr (some (.inl 19))) rfl
      obtain ⟨w23p8, hF23p8, b23p8, rfl, hb23p8⟩ := hKm.2 8 (.inr (some (.inl 20))) rfl
      obtain ⟨w23p17, hF23p17, b23p17, rfl, hb23p17⟩ := hKm.2 17 (.inr (some (.inl 26))) rfl
      obtain ⟨n23q17, f23q17, hA23q17, hN23q17, hM23q17, hv23q17⟩ := WT_arrI (r := (-2147483648, 2147483647)) hW id rfl hb23p4
      obtain rfl := hM23q17 120 rfl
      clear hN23q17 hM23q17
      obtain ⟨n23q18, f23q18, hA23q18, hN23q18, hM23q18, hv23q18⟩ := WT_arrI (r := (-2147483648, 2147483647)) hW id rfl hb23p6
      obtain rfl := hM23q18 121 rfl
      clear hN23q18 hM23q18
      obtain ⟨n23q19, f23q19, hA23q19, hN23q19, hM23q19, hv23q19⟩ := WT_arrI (r := (-2147483648, 2147483647)) hW id rfl hb23p7
      obtain rfl := hM23q19 121 rfl
      clear hN23q19 hM23q19
      obtain ⟨n23q20, f23q20, hA23q20, hN23q20, hM23q20, hv23q20⟩ := WT_arrI (r := (-2147483648, 2147483647)) hW id rfl hb23p8
      obtain rfl := hM23q20 121 rfl
      clear hN23q20 hM23q20
      obtain ⟨n23q26, f23q26, hA23q26, hN23q26, hM23q26, hv23q26⟩ := WT_arrI (r := (-2147483648, 2147483647)) hW id rfl hb23p17
      obtain rfl := hM23q26 22 rfl
      clear hN23q26 hM23q26
      refine Jw_callV2 (q9 := (RX7, TX7, 34)) moX7_counts jw_ml_X7_187 jw_im_X7_counts jw_se_X7_counts ha0 rfl rfl dX7_forms_23 (w_X7_counts_z (d - 1) _ a0 x1 x2 b23p4 b23p6 b23p7 b23p8 kn co sq rg bg se b23p17 f23q17 f23q18 f23q19 f23q20 KN CO SQ RG BG SE f23q26 (by omega) hW  ha0 ⟨_, hM, hF23p4⟩ ⟨_, hM, hF23p6⟩ ⟨_, hM, hF23p7⟩ ⟨_, hM, hF23p8⟩ ⟨_, hM, g11⟩ ⟨_, hM, g12⟩ ⟨_, hM, g13⟩ ⟨_, hM, g14⟩ ⟨_, hM, g15⟩ ⟨_, hM, g16⟩ ⟨_, hM, hF23p17⟩ hA23q17 hA23q18 hA23q19 hA23q20 k1 k2 k3 k4 k5 k6 hA23q26 (by omega) (by omega) (by omega) (by omega) hsn0 hmo0) (by omega) (Nat.zero_le _) (Nat.zero_le _) (Nat.le_of_ble_eq_true rfl) (fun r23 V23 h23 => ?_)
      obtain ⟨h23, hX23_0, hX23_1⟩ := h23
      obtain ⟨hW, hx23, hr23⟩ := h23
      have he := he.trans (hx23.sub (jsub_of rfl))
      have hkp := hkp.trans hX23_1
      have ha0 := ha0.mono hx23.1
      have hbm1 := hbm1.mono hx23.1
      have hbm2 := hbm2.mono hx23.1
      have hbm3 := hbm3.mono hx23.1
      have hbm4 := hbm4.mono hx23.1
      have hbm5 := hbm5.mono hx23.1
      have hbm6 := hbm6.mono hx23.1
      have hbfd := hbfd.mono hx23.1
      have hbrd := hbrd.mono hx23.1
      have hb23p4 := hb23p4.mono hx23.1
      have hb23p6 := hb23p6.mono hx23.1
      have hb23p7 := hb23p7.mono hx23.1
      have hb23p8 := hb23p8.mono hx23.1
      have hb23p17 := hb23p17.mono hx23.1
      obtain ⟨fs23a0, hOfs23a0, hRfs23a0⟩ := hx23.1.keep hM
      have hKfs23a0 : jokO _ (jFs 5) fs23a0 := hW _ _ id hOfs23a0
      have hFfs23a0_11 := hRfs23a0 _ _ g11
      have hFfs23a0_12 := hRfs23a0 _ _ g12
      have hFfs23a0_13 := hRfs23a0 _ _ g13
      have hFfs23a0_14 := hRfs23a0 _ _ g14
      have hFfs23a0_15 := hRfs23a0 _ _ g15
      have hFfs23a0_16 := hRfs23a0 _ _ g16
      have hFfs23a0_18 := hRfs23a0 _ _ g18
      have hFfs23a0_19 := hRfs23a0 _ _ g19
      have hFfs23a0_4 := hRfs23a0 _ _ hF23p4
      have hFfs23a0_6 := hRfs23a0 _ _ hF23p6
      have hFfs23a0_7 := hRfs23a0 _ _ hF23p7
      have hFfs23a0_8 := hRfs23a0 _ _ hF23p8
      have hFfs23a0_17 := hRfs23a0 _ _ hF23p17
      have d1 := hx23.2 _ _ d1 (jnot_of rfl)
      have d2 := hx23.2 _ _ d2 (jnot_of rfl)
      cases hr23
      obtain ⟨KN23, CO23, SQ23, RG23, BG23, SE23, b1, b2, b3, b4, b5, b6, hsn, hkn, hmk, hko, hot⟩ := hX23_0
      have hct : jRM V23 a0 := jRM.upd (g := x1.toInt.toNat) (n := x2.toInt.toNat) (by omega) (by omega) m1 m2 m3 m4 m5 m6 he b1 b2 b3 b4 b5 b6 hsn (by rw [hix]; exact hkn) (by rw [hig, hix]; exact hmk) (by rw [hix]; exact hko) (by rw [hix]; exact hot) hmo
      have hjb : 3 ≤ jdir x1.toInt ∧ jdir x1.toInt ≤ 6 := by have q := jdir_cases x1.toInt; omega
      have hix8 : (8 * x1.toInt + x2.toInt).toNat = 8 * x1.toInt.toNat + x2.toInt.toNat := by omega
      obtain ⟨hN_KN23, hv_KN23⟩ := WT_rngI (r := (0, 1)) hW id rfl b1
      clear hN_KN23
      obtain ⟨hN_CO23, hv_CO23⟩ := WT_rngI (r := ((-2147483648), 2147483647)) hW id rfl b2
      clear hN_CO23
      obtain ⟨hN_RG23, hv_RG23⟩ := WT_rngI (r := ((-2147483648), 2147483647)) hW id rfl b4
      clear hN_RG23
      obtain ⟨hN_BG23, hv_BG23⟩ := WT_rngI (r := ((-2147483648), 2147483647)) hW id rfl b5
      clear hN_BG23
      obtain ⟨hN_SE23, hv_SE23⟩ := WT_rngI (r := (0, 1)) hW id rfl b6
      clear hN_SE23
      refine J_aload_n dX7_forms_26 rfl ?_
      refine J_get jf_X7_41 dX7_forms_27 hOfs23a0 hFfs23a0_12 ?_
      refine Jz_bipush 21 dX7_forms_30 (by decide) (fun y30 he30 => ?_)
      refine J_iload_n dX7_forms_32 rfl ?_
      refine Jz_imul he30 jEq.rf dX7_forms_33 (by omega) (by omega) (fun y33 he33 => ?_)
      refine J_iload_n dX7_forms_34 rfl ?_
      refine Jz_iadd he33 jEq.rf dX7_forms_35 (by omega) (by omega) (fun y35 he35 => ?_)
      refine Jz_iald (r := ((-2147483648), 2147483647)) he35 dX7_forms_36 b2 rfl hv_CO23 (by omega) (by omega) (fun y36 hf36 hl36 hh36 => ?_)
      dsimp only at hl36 hh36
      clear hl36 hh36
      have e36 : (CO23 (21 * x1.toInt + x2.toInt).toNat).toInt = y36.toInt := by rw [hf36]
      refine Jz_bipush (-5) dX7_forms_37 (by decide) (fun y37 he37 => ?_)
      refine Jz_icmp_eq (tgt := 59) jEq.rf he37 dX7_forms_39 (by decide) (fun c39 => ?_) (fun c39 => ?_)
      · refine Jz_bipush (-5) dX7_forms_59 (by decide) (fun y59 he59 => ?_)
        exact J_ret (r := some (.int _)) dX7_forms_61 ⟨rfl, _, rfl, rfl⟩ (⟨⟨hW, he, ⟨_, rfl, (j_rng _).1, (j_rng _).2, (Or.inl ⟨by omega, Or.inl ⟨hmk.co.elim (fun q => absurd q.2.1 (by rw [e36]; omega)) (fun q => Or.inl q.1), he59.eq⟩⟩)⟩⟩, hct, ⟨fd, rd, FD, RD, f1.mono he.1, f2.mono he.1, d1, d2, w1, w2⟩, hkp⟩)
      · refine J_aload_n dX7_forms_42 rfl ?_
        refine J_get jf_X7_41 dX7_forms_43 hOfs23a0 hFfs23a0_12 ?_
        refine Jz_bipush 21 dX7_forms_46 (by decide) (fun y46 he46 => ?_)
        refine J_iload_n dX7_forms_48 rfl ?_
        refine Jz_imul he46 jEq.rf dX7_forms_49 (by omega) (by omega) (fun y49 he49 => ?_)
        refine J_iload_n dX7_forms_50 rfl ?_
        refine Jz_iadd he49 jEq.rf dX7_forms_51 (by omega) (by omega) (fun y51 he51 => ?_)
        refine Jz_iald (r := ((-2147483648), 2147483647)) he51 dX7_forms_52 b2 rfl hv_CO23 (by omega) (by omega) (fun y52 hf52 hl52 hh52 => ?_)
        dsimp only at hl52 hh52
        clear hl52 hh52
        have he52 : jEq y52.toInt (y36.toInt) := by rw [← hf52, hf36]; exact jEq.rf
        refine Jz_sipush 3000 dX7_forms_53 (by decide) (fun y53 he53 => ?_)
        refine Jz_icmp_le (tgt := 62) he52 he53 dX7_forms_56 (by decide) (fun c56 => ?_) (fun c56 => ?_)
        · have hns : ¬ (600000 < jTT x1.toInt x2.toInt.toNat jL0 ∨ 3000 < (jrq x1.toInt x2.toInt.toNat).1) := (fun z => hmk.co.elim (fun q => z.elim (fun w => absurd w (by omega)) (fun w => by have v := q.2.2.1; rw [e36] at v; omega)) (fun q => absurd (show y36.toInt = -5 by rw [← e36]; exact q.2) (by omega)))
          refine Jz_bipush 8 dX7_forms_62 (by decide) (fun y62 he62 => ?_)
          refine J_iload_n dX7_forms_64 rfl ?_
          refine Jz_imul he62 jEq.rf dX7_forms_65 (by omega) (by omega) (fun y65 he65 => ?_)
          refine J_iload_n dX7_forms_66 rfl ?_
          refine Jz_iadd he65 jEq.rf dX7_forms_67 (by omega) (by omega) (fun y67 he67 => ?_)
          refine J_istore_n dX7_forms_68 rfl (by decide) ?_
          refine J_aload_n dX7_forms_69 rfl ?_
          refine J_get jf_X7_61 dX7_forms_70 hOfs23a0 hFfs23a0_18 ?_
          refine J_iload_n dX7_forms_73 rfl ?_
          refine Jz_iald (r := ((-2147483648), 2147483647)) he67 dX7_forms_74 d1 rfl hvFD (by omega) (by omega) (fun y74 hf74 hl74 hh74 => ?_)
          dsimp only at hl74 hh74
          clear hl74 hh74
          have e74 : (FD (8 * x1.toInt + x2.toInt).toNat).toInt = y74.toInt := by rw [hf74]
          refine Jz_if_ne (tgt := 142) jEq.rf dX7_forms_75 (by decide) (fun c75 => ?_) (fun c75 => ?_)
          · refine J_aload_n dX7_forms_142 rfl ?_
            refine J_get jf_X7_61 dX7_forms_143 hOfs23a0 hFfs23a0_18 ?_
            refine J_iload_n dX7_forms_146 rfl ?_
            refine Jz_iald (r := ((-2147483648), 2147483647)) he67 dX7_forms_147 d1 rfl hvFD (by omega) (by omega) (fun y147 hf147 hl147 hh147 => ?_)
            dsimp only at hl147 hh147
            clear hl147 hh147
            have he147 : jEq y147.toInt (y74.toInt) := by rw [← hf147, hf74]; exact jEq.rf
            exact J_ret (r := some (.int _)) dX7_forms_148 ⟨rfl, _, rfl, rfl⟩ (⟨⟨hW, he, ⟨_, rfl, (j_rng _).1, (j_rng _).2, (Or.inl ⟨by omega, Or.inr ⟨hns, by rw [he147.eq]; have q := w1 x1.toInt.toNat x2.toInt.toNat (by omega) (by omega); rw [← hix8, e74, hig] at q; exact q.elim (fun w => absurd w c75) id⟩⟩)⟩⟩, hct, ⟨fd, rd, FD, RD, f1.mono he.1, f2.mono he.1, d1, d2, w1, w2⟩, hkp⟩)
          · refine J_iload_n dX7_forms_78 rfl ?_
            refine J_callS1 moX7_directions jw_ml_X7_133 jw_st_X7_directions dX7_forms_79 (w_X7_directions (d - 1) _ x1 (by omega)   ) (by omega) (Nat.zero_le _) (Nat.zero_le _) (Nat.le_of_ble_eq_true rfl) (fun r79 V79 h79 => ?_)
            obtain ⟨⟨y79, rfl, hl79, hh79, hP79_0⟩, hE79⟩ := h79
            have hE79 := hE79.symm
            subst hE79
            have hz79 : jEq y79.toInt (jdir (x1.toInt)) := hP79_0
            simp only [hP79_0] at hl79 hh79
            clear hP79_0
            refine J_iload_n dX7_forms_82 rfl ?_
            refine J_callS2 moX7_power jw_ml_X7_195 jw_st_X7_power dX7_forms_83 (w_X7_power_z (d - 1) _ y79 x2 (by omega)   (by rw [hz79.eq]; omega) (by rw [hz79.eq]; omega) (by omega) (by omega)) (by omega) (Nat.zero_le _) (Nat.zero_le _) (Nat.le_of_ble_eq_true rfl) (fun r83 V83 h83 => ?_)
            obtain ⟨⟨y83, rfl, hl83, hh83, hP83_0⟩, hE83⟩ := h83
            have hE83 := hE83.symm
            subst hE83
            clear hl83 hh83
            try simp only [hz79.eq] at hP83_0
            have hpb := jpow7 (D := (jdir x1.toInt).toNat) (k := x2.toInt.toNat) (by omega) (by omega)
            refine J_istore dX7_forms_86 rfl (by decide) ?_
            refine Jz_iconst 0 dX7_forms_88 (by decide) (fun y88 he88 => ?_)
            refine J_istore dX7_forms_89 rfl (by decide) ?_
            have L91 : ∀ (N : Nat) (V : jH) (i5n91 : Int32) (gs91a0 : List Value) (F27n91 : Nat → Int32), WT V → jeff [.inl 17, .inl 18, .inl 19, .inl 20, .inl 21, .inl 23, .inl 24, .inl 25, .inl 26, .inl 27, .inl 40, .inl 41, .inl 46, .inr 5] V0 V → (jis V (.inr 5) a0) → (jis V (.inl 40) kn) → (jis V (.inl 23) co) → (jis V (.inl 46) sq) → (jis V (.inl 24) rg) → (jis V (.inl 25) bg) → (jis V (.inl 41) se) → (jis V (.inl 27) fd) → (jis V (.inl 28) rd) → (jis V (.inl 17) b23p4) → (jis V (.inl 18) b23p6) → (jis V (.inl 19) b23p7) → (jis V (.inl 20) b23p8) → (jis V (.inl 26) b23p17) → (jkc 5 [0, 23, 24] V0 V) → (jRM V a0) → (V a0 = some (.inr (5, gs91a0))) → (gs91a0[11]? = some (.ref kn)) → (gs91a0[12]? = some (.ref co)) → (gs91a0[13]? = some (.ref sq)) → (gs91a0[14]? = some (.ref rg)) → (gs91a0[15]? = some (.ref bg)) → (gs91a0[16]? = some (.ref se)) → (gs91a0[18]? = some (.ref fd)) → (gs91a0[19]? = some (.ref rd)) → (gs91a0[4]? = some (.ref b23p4)) → (gs91a0[6]? = some (.ref b23p6)) → (gs91a0[7]? = some (.ref b23p7)) → (gs91a0[8]? = some (.ref b23p8)) → (gs91a0[17]? = some (.ref b23p17)) → (V fd = some (.inl (27, 32, .inl F27n91))) → (V rd = some (.inl (28, 28, .inl RD))) → (0 ≤ i5n91.toInt ∧ i5n91.toInt ≤ (((jdir x1.toInt).toNat ^ x2.toInt.toNat : Nat) : Int)) → ((F27n91 (8 * x1.toInt + x2.toInt).toNat).toInt = ((jsu (jffo x1.toInt (jdir x1.toInt).toNat x2.toInt.toNat) i5n91.toInt.toNat : Nat) : Int)) → (∀ i : Nat, i ≠ (8 * x1.toInt + x2.toInt).toNat → F27n91 i = FD i) → (300000 - i5n91.toInt).toNat < N → J tS mX7_forms d 91 [some (.ref a0), some (.int x1), some (.int x2), some (.int y67), some (.int y83), some (.int i5n91)] [] V 0 0 (fun r V => (jPost [.inl 17, .inl 18, .inl 19, .inl 20, .inl 21, .inl 23, .inl 24, .inl 25, .inl 26, .inl 27, .inl 40, .inl 41, .inl 46, .inr 5] V0 (fun r _ => ∃ y : Int32, r = some (.int y) ∧ ((-2147483648) ≤ y.toInt) ∧ (y.toInt ≤ 2147483647) ∧ (((0 ≤ x1.toInt ∧ x1.toInt ≤ 3 ∧ 0 ≤ x2.toInt ∧ x2.toInt ≤ 7) ∧ (((600000 < jTT x1.toInt x2.toInt.toNat jL0 ∨ 3000 < (jrq x1.toInt x2.toInt.toNat).1) ∧ y.toInt = -5) ∨ (¬ (600000 < jTT x1.toInt x2.toInt.toNat jL0 ∨ 3000 < (jrq x1.toInt x2.toInt.toNat).1) ∧ y.toInt = ((jfo x1.toInt x2.toInt.toNat : Nat) : Int)))) ∨ (¬ (0 ≤ x1.toInt ∧ x1.toInt ≤ 3 ∧ 0 ≤ x2.toInt ∧ x2.toInt ≤ 7) ∧ y.toInt = -2)))) r V ∧ jRM V a0 ∧ jRF V a0 ∧ jkc 5 [0, 23, 24] V0 V) := by
              intro N
              induction N with
              | zero => intro V i5n91 gs91a0 F27n91 hW he ha0 hbm1 hbm2 hbm3 hbm4 hbm5 hbm6 hbfd hbrd hb23p4 hb23p6 hb23p7 hb23p8 hb23p17 hkp hct hOgs91a0 hFgs91a0_11 hFgs91a0_12 hFgs91a0_13 hFgs91a0_14 hFgs91a0_15 hFgs91a0_16 hFgs91a0_18 hFgs91a0_19 hFgs91a0_4 hFgs91a0_6 hFgs91a0_7 hFgs91a0_8 hFgs91a0_17 hAF27n91 d2 hi5 hsum hoth hm; exact absurd hm (Nat.not_lt_zero _)
              | succ N ih =>
                intro V i5n91 gs91a0 F27n91 hW he ha0 hbm1 hbm2 hbm3 hbm4 hbm5 hbm6 hbfd hbrd hb23p4 hb23p6 hb23p7 hb23p8 hb23p17 hkp hct hOgs91a0 hFgs91a0_11 hFgs91a0_12 hFgs91a0_13 hFgs91a0_14 hFgs91a0_15 hFgs91a0_16 hFgs91a0_18 hFgs91a0_19 hFgs91a0_4 hFgs91a0_6 hFgs91a0_7 hFgs91a0_8 hFgs91a0_17 hAF27n91 d2 hi5 hsum hoth hm
                have ih91 := ih
                have hri5 := j_rng i5n91
                have hKgs91a0 : jokO V (jFs 5) gs91a0 := hW _ _ id hOgs91a0
                obtain ⟨hNF27n91, hvF27n91⟩ := WT_rngI (r := ((-2147483648), 2147483647)) hW id rfl hAF27n91
                clear hNF27n91
                refine J_iload dX7_forms_91 rfl ?_
                refine J_iload dX7_forms_93 rfl ?_
                refine Jz_icmp_ge (tgt := 142) jEq.rf jEq.rf dX7_forms_95 (by decide) (fun c95 => ?_) (fun c95 => ?_)
                · have hfin : (F27n91 (8 * x1.toInt + x2.toInt).toNat).toInt = ((jfo x1.toInt x2.toInt.toNat : Nat) : Int) := by
                    rw [hsum, show i5n91.toInt.toNat = (jdir x1.toInt).toNat ^ x2.toInt.toNat by omega]
                    exact congrArg (fun z : Nat => (z : Int)) (jfc_all rfl (by omega) (fun _ => 0)).symm
                  refine J_aload_n dX7_forms_142 rfl ?_
                  refine J_get jf_X7_61 dX7_forms_143 hOgs91a0 hFgs91a0_18 ?_
                  refine J_iload_n dX7_forms_146 rfl ?_
                  refine Jz_iald (r := ((-2147483648), 2147483647)) he67 dX7_forms_147 hAF27n91 rfl hvF27n91 (by omega) (by omega) (fun y147 hf147 hl147 hh147 => ?_)
                  dsimp only at hl147 hh147
                  clear hl147 hh147
                  exact J_ret (r := some (.int _)) dX7_forms_148 ⟨rfl, _, rfl, rfl⟩ (⟨⟨hW, he, ⟨_, rfl, (j_rng _).1, (j_rng _).2, (Or.inl ⟨by omega, Or.inr ⟨hns, by rw [← hf147]; exact hfin⟩⟩)⟩⟩, hct, ⟨fd, rd, F27n91, RD, f1.mono he.1, f2.mono he.1, hAF27n91, d2, jfd_set hix8 (by omega) w1 (by rw [hig]; exact hfin) hoth, w2⟩, hkp⟩)
                · refine J_aload_n dX7_forms_98 rfl ?_
                  refine J_iload_n dX7_forms_99 rfl ?_
                  refine J_iload_n dX7_forms_100 rfl ?_
                  refine J_iload dX7_forms_101 rfl ?_
                  obtain ⟨w103p22, hF103p22, y103p22, rfl, hl103p22, hh103p22⟩ := hKgs91a0.2 22 (.inl ((-2147483648), 2147483647)) rfl
                  dsimp only at hl103p22 hh103p22
                  obtain ⟨n103q17, f103q17, hA103q17, hN103q17, hM103q17, hv103q17⟩ := WT_arrI (r := (-2147483648, 2147483647)) hW id rfl hb23p4
                  obtain rfl := hM103q17 120 rfl
                  clear hN103q17 hM103q17
                  refine Jw_callV3 (q9 := (RX7, TX7, 34)) moX7_rowOf jw_ml_X7_198 jw_im_X7_rowOf jw_se_X7_rowOf ha0 rfl rfl dX7_forms_103 (w_X7_rowOf_z (d - 1) _ a0 x1 x2 i5n91 y103p22 b23p4 f103q17 (by omega) hW  ha0 ⟨_, hOgs91a0, hF103p22⟩ ⟨_, hOgs91a0, hFgs91a0_4⟩ hA103q17 (by omega) (by omega) (by omega) (by omega) (by omega)) (by omega) (Nat.zero_le _) (Nat.zero_le _) (Nat.le_of_ble_eq_true rfl) (fun r103 V103 h103 => ?_)
                  obtain ⟨h103, hX103_0, hX103_1, ⟨fv103_0, hfv103_0, hfp103_0⟩, ⟨fv103_1, hfv103_1, hfp103_1⟩⟩ := h103
                  obtain ⟨hW, hx103, hr103⟩ := h103
                  have he := he.trans (hx103.sub (jsub_of rfl))
                  have hkp := hkp.trans hX103_1
                  have hct := hct.keep hx103 (jdis_of rfl)
                  have ha0 := ha0.mono hx103.1
                  have hbm1 := hbm1.mono hx103.1
                  have hbm2 := hbm2.mono hx103.1
                  have hbm3 := hbm3.mono hx103.1
                  have hbm4 := hbm4.mono hx103.1
                  have hbm5 := hbm5.mono hx103.1
                  have hbm6 := hbm6.mono hx103.1
                  have hbfd := hbfd.mono hx103.1
                  have hbrd := hbrd.mono hx103.1
                  have hb23p4 := hb23p4.mono hx103.1
                  have hb23p6 := hb23p6.mono hx103.1
                  have hb23p7 := hb23p7.mono hx103.1
                  have hb23p8 := hb23p8.mono hx103.1
                  have hb23p17 := hb23p17.mono hx103.1
                  obtain ⟨fs103a0, hOfs103a0, hRfs103a0⟩ := hx103.1.keep hOgs91a0
                  have hKfs103a0 : jokO _ (jFs 5) fs103a0 := hW _ _ id hOfs103a0
                  have hFfs103a0_11 := hRfs103a0 _ _ hFgs91a0_11
                  have hFfs103a0_12 := hRfs103a0 _ _ hFgs91a0_12
                  have hFfs103a0_13 := hRfs103a0 _ _ hFgs91a0_13
                  have hFfs103a0_14 := hRfs103a0 _ _ hFgs91a0_14
                  have hFfs103a0_15 := hRfs103a0 _ _ hFgs91a0_15
                  have hFfs103a0_16 := hRfs103a0 _ _ hFgs91a0_16
                  have hFfs103a0_18 := hRfs103a0 _ _ hFgs91a0_18
                  have hFfs103a0_19 := hRfs103a0 _ _ hFgs91a0_19
                  have hFfs103a0_4 := hRfs103a0 _ _ hFgs91a0_4
                  have hFfs103a0_6 := hRfs103a0 _ _ hFgs91a0_6
                  have hFfs103a0_7 := hRfs103a0 _ _ hFgs91a0_7
                  have hFfs103a0_8 := hRfs103a0 _ _ hFgs91a0_8
                  have hFfs103a0_17 := hRfs103a0 _ _ hFgs91a0_17
                  have hAF27n91 := hx103.2 _ _ hAF27n91 (jnot_of rfl)
                  have d2 := hx103.2 _ _ d2 (jnot_of rfl)
                  cases hr103
                  have hFv103_0 := hfv103_0.get hOfs103a0
                  have hsb103_0 : x2 = fv103_0 := (jI_inj.mp hfp103_0).symm
                  subst hsb103_0
                  have hFv103_1 := hfv103_1.get hOfs103a0
                  have hsb103_1 : y103p22 = fv103_1 := (jI_inj.mp hfp103_1).symm
                  subst hsb103_1
                  obtain ⟨R103, hR103, hRe103⟩ := hX103_0
                  obtain ⟨hN_R103, hv_R103⟩ := WT_rngI (r := ((-2147483648), 2147483647)) hW id rfl hR103
                  clear hN_R103
                  refine J_aload_n dX7_forms_106 rfl ?_
                  refine J_get jf_X7_61 dX7_forms_107 hOfs103a0 hFfs103a0_18 ?_
                  refine J_iload_n dX7_forms_110 rfl ?_
                  refine J_dup2 dX7_forms_111 rfl rfl ?_
                  refine Jz_iald (r := ((-2147483648), 2147483647)) he67 dX7_forms_112 hAF27n91 rfl hvF27n91 (by omega) (by omega) (fun y112 hf112 hl112 hh112 => ?_)
                  dsimp only at hl112 hh112
                  clear hl112 hh112
                  have e112 : (F27n91 (8 * x1.toInt + x2.toInt).toNat).toInt = y112.toInt := by rw [hf112]
                  have hb112 : 0 ≤ y112.toInt ∧ y112.toInt ≤ 279936 := by have q := jsu_one (f := (jffo x1.toInt (jdir x1.toInt).toNat x2.toInt.toNat)) (c := i5n91.toInt.toNat) (fun d _ => jffo_le _ _ _ _); omega
                  refine J_aload_n dX7_forms_113 rfl ?_
                  refine J_iload_n dX7_forms_114 rfl ?_
                  obtain ⟨n115q18, f115q18, hA115q18, hN115q18, hM115q18, hv115q18⟩ := WT_arrI (r := (-2147483648, 2147483647)) hW id rfl hb23p6
                  obtain rfl := hM115q18 121 rfl
                  clear hN115q18 hM115q18
                  obtain ⟨n115q19, f115q19, hA115q19, hN115q19, hM115q19, hv115q19⟩ := WT_arrI (r := (-2147483648, 2147483647)) hW id rfl hb23p7
                  obtain rfl := hM115q19 121 rfl
                  clear hN115q19 hM115q19
                  obtain ⟨n115q20, f115q20, hA115q20, hN115q20, hM115q20, hv115q20⟩ := WT_arrI (r := (-2147483648, 2147483647)) hW id rfl hb23p8
                  obtain rfl := hM115q20 121 rfl
                  clear hN115q20 hM115q20
                  refine Jw_callV1 (q9 := (RX7, TX7, 34)) moX7_goes jw_ml_X7_122 jw_im_X7_goes jw_se_X7_goes ha0 rfl rfl dX7_forms_115 (w_X7_goes_z (d - 1) _ a0 x1 x2 b23p4 b23p6 b23p7 b23p8 R103 f115q18 f115q19 f115q20 (by omega) hW  ha0 ⟨_, hOfs103a0, hFv103_0⟩ ⟨_, hOfs103a0, hFfs103a0_4⟩ ⟨_, hOfs103a0, hFfs103a0_6⟩ ⟨_, hOfs103a0, hFfs103a0_7⟩ ⟨_, hOfs103a0, hFfs103a0_8⟩ hR103 hA115q18 hA115q19 hA115q20 (by omega) (by omega)) (by omega) (Nat.zero_le _) (Nat.zero_le _) (Nat.le_of_ble_eq_true rfl) (fun r115 V115 h115 => ?_)
                  obtain ⟨h115, hX115_0⟩ := h115
                  obtain ⟨hW, hx115, hr115⟩ := h115
                  have he := he.trans (hx115.sub (jsub_of rfl))
                  have hkp := hkp.trans (jkc.of hx115 (jnot_of rfl))
                  have hct := hct.keep hx115 (jdis_of rfl)
                  have ha0 := ha0.mono hx115.1
                  have hbm1 := hbm1.mono hx115.1
                  have hbm2 := hbm2.mono hx115.1
                  have hbm3 := hbm3.mono hx115.1
                  have hbm4 := hbm4.mono hx115.1
                  have hbm5 := hbm5.mono hx115.1
                  have hbm6 := hbm6.mono hx115.1
                  have hbfd := hbfd.mono hx115.1
                  have hbrd := hbrd.mono hx115.1
                  have hb23p4 := hb23p4.mono hx115.1
                  have hb23p6 := hb23p6.mono hx115.1
                  have hb23p7 := hb23p7.mono hx115.1
                  have hb23p8 := hb23p8.mono hx115.1
                  have hb23p17 := hb23p17.mono hx115.1
                  have hOfs103a0 := hx115.2 _ _ hOfs103a0 (jnot_of rfl)
                  have hKfs103a0 := hKfs103a0.mono hx115.1
                  have hAF27n91 := hx115.2 _ _ hAF27n91 (jnot_of rfl)
                  have d2 := hx115.2 _ _ d2 (jnot_of rfl)
                  have hR103 := hx115.2 _ _ hR103 (jnot_of rfl)
                  obtain ⟨y115, rfl, hl115, hh115, hP115_0⟩ := hr115
                  obtain ⟨X115, Y115, Z115, hXa115, hYa115, hZa115, -⟩ := hX115_0
                  obtain ⟨hN_X115, hv_X115⟩ := WT_rngI (r := ((-2147483648), 2147483647)) hW id rfl hXa115
                  clear hN_X115
                  obtain ⟨hN_Y115, hv_Y115⟩ := WT_rngI (r := ((-2147483648), 2147483647)) hW id rfl hYa115
                  clear hN_Y115
                  obtain ⟨hN_Z115, hv_Z115⟩ := WT_rngI (r := ((-2147483648), 2147483647)) hW id rfl hZa115
                  clear hN_Z115
                  refine Jz_if_eq (tgt := 133) jEq.rf dX7_forms_118 (by decide) (fun c118 => ?_) (fun c118 => ?_)
                  · have hja : ¬ jav x1.toInt (jdg9 (jdir x1.toInt).toNat x2.toInt.toNat i5n91.toInt.toNat) x2.toInt.toNat := fun z => hP115_0.elim (fun q => absurd q.1 (by omega)) (fun q => q.2 (z.congr (fun q hq => (hRe103 q hq).symm)))
                    refine Jz_iconst 0 dX7_forms_133 (by decide) (fun y133 he133 => ?_)
                    refine Jz_iadd jEq.rf he133 dX7_forms_134 (by omega) (by omega) (fun y134 he134 => ?_)
                    refine Jz_iast (r := ((-2147483648), 2147483647)) he67 he134 hW id dX7_forms_135 hAF27n91 rfl rfl (by omega) (by omega) (by omega) (by omega) (fun V135 G135 hW hx135 hA135 hp135 ho135 => ?_)
                    obtain ⟨hN135, hv135⟩ := WT_rngI (r := ((-2147483648), 2147483647)) hW id rfl hA135
                    clear hN135
                    have he := he.trans (hx135.sub (jsub_of rfl))
                    have hkp := hkp.trans (jkc.of hx135 (jnot_of rfl))
                    have hct := hct.keep hx135 (jdis_of rfl)
                    have ha0 := ha0.mono hx135.1
                    have hbm1 := hbm1.mono hx135.1
                    have hbm2 := hbm2.mono hx135.1
                    have hbm3 := hbm3.mono hx135.1
                    have hbm4 := hbm4.mono hx135.1
                    have hbm5 := hbm5.mono hx135.1
                    have hbm6 := hbm6.mono hx135.1
                    have hbfd := hbfd.mono hx135.1
                    have hbrd := hbrd.mono hx135.1
                    have hb23p4 := hb23p4.mono hx135.1
                    have hb23p6 := hb23p6.mono hx135.1
                    have hb23p7 := hb23p7.mono hx135.1
                    have hb23p8 := hb23p8.mono hx135.1
                    have hb23p17 := hb23p17.mono hx135.1
                    have hOfs103a0 := hx135.2 _ _ hOfs103a0 (jnot_of rfl)
                    have hKfs103a0 := hKfs103a0.mono hx135.1
                    have d2 := hx135.2 _ _ d2 (jnot_of rfl)
                    have hR103 := hx135.2 _ _ hR103 (jnot_of rfl)
                    have hXa115 := hx135.2 _ _ hXa115 (jnot_of rfl)
                    have hYa115 := hx135.2 _ _ hYa115 (jnot_of rfl)
                    have hZa115 := hx135.2 _ _ hZa115 (jnot_of rfl)
                    refine Jz_iinc 1 dX7_forms_136 rfl rfl (by decide) jEq.rf (by decide) (by omega) (by omega) (fun y136 he136 => ?_)
                    refine J_goto (tgt := 91) dX7_forms_139 (by decide) ?_
                    refine J.mask [true, true, true, true, true, true] ?_
                    exact ih91 _ y136 fs103a0 G135 hW he ha0 hbm1 hbm2 hbm3 hbm4 hbm5 hbm6 hbfd hbrd hb23p4 hb23p6 hb23p7 hb23p8 hb23p17 hkp hct hOfs103a0 hFfs103a0_11 hFfs103a0_12 hFfs103a0_13 hFfs103a0_14 hFfs103a0_15 hFfs103a0_16 hFfs103a0_18 hFfs103a0_19 hFfs103a0_4 hFfs103a0_6 hFfs103a0_7 hFfs103a0_8 hFfs103a0_17 hA135 d2 (by (try simp only [he136.eq, true_and, and_true]) <;> omega) (by rw [he136.eq, show (i5n91.toInt + 1).toNat = i5n91.toInt.toNat + 1 by omega, hp135, he134.eq, ← e112, hsum, jsu_skip (f := (jffo x1.toInt (jdir x1.toInt).toNat x2.toInt.toNat)) (c := i5n91.toInt.toNat) (show (jffo x1.toInt (jdir x1.toInt).toNat x2.toInt.toNat) i5n91.toInt.toNat = 0 from (jone_no (fun z => hja z.1))), Int.add_zero]) (fun i hi => (ho135 i hi).trans (hoth i hi)) (by (try simp only [he136.eq, true_and, and_true]) <;> omega)
                  · have hja : jav x1.toInt (jdg9 (jdir x1.toInt).toNat x2.toInt.toNat i5n91.toInt.toNat) x2.toInt.toNat := (hP115_0.elim (fun q => q.2) (fun q => absurd q.1 (by omega))).congr (fun q hq => hRe103 q hq)
                    refine J_aload_n dX7_forms_121 rfl ?_
                    refine J_iload_n dX7_forms_122 rfl ?_
                    obtain ⟨w123p9, hF123p9, b123p9, rfl, hb123p9⟩ := hKfs103a0.2 9 (.inr (some (.inl 21))) rfl
                    obtain ⟨n123q21, f123q21, hA123q21, hN123q21, hM123q21, hv123q21⟩ := WT_arrI (r := (-2147483648, 2147483647)) hW id rfl hb123p9
                    obtain rfl := hM123q21 60 rfl
                    clear hN123q21 hM123q21
                    refine Jw_callV1 (q9 := (RX7, TX7, 34)) moX7_isForm jw_ml_X7_202 jw_im_X7_isForm jw_se_X7_isForm ha0 rfl rfl dX7_forms_123 (w_X7_isForm_z (d - 1) _ a0 x1 x2 b23p4 b123p9 R103 f123q21 (by omega) hW  ha0 ⟨_, hOfs103a0, hFv103_0⟩ ⟨_, hOfs103a0, hFfs103a0_4⟩ ⟨_, hOfs103a0, hF123p9⟩ hR103 hA123q21 (by omega) (by omega) (by omega) (fun j9 hj9 => by rw [hRe103 j9 (by omega)]; have q := jdg9_b (D := (jdir x1.toInt).toNat) (n := x2.toInt.toNat) (v := i5n91.toInt.toNat) (i := j9) (by omega); omega)) (by omega) (Nat.zero_le _) (Nat.zero_le _) (Nat.le_of_ble_eq_true rfl) (fun r123 V123 h123 => ?_)
                    obtain ⟨hW, hx123, hr123⟩ := h123
                    have he := he.trans (hx123.sub (jsub_of rfl))
                    have hkp := hkp.trans (jkc.of hx123 (jnot_of rfl))
                    have hct := hct.keep hx123 (jdis_of rfl)
                    have ha0 := ha0.mono hx123.1
                    have hbm1 := hbm1.mono hx123.1
                    have hbm2 := hbm2.mono hx123.1
                    have hbm3 := hbm3.mono hx123.1
                    have hbm4 := hbm4.mono hx123.1
                    have hbm5 := hbm5.mono hx123.1
                    have hbm6 := hbm6.mono hx123.1
                    have hbfd := hbfd.mono hx123.1
                    have hbrd := hbrd.mono hx123.1
                    have hb23p4 := hb23p4.mono hx123.1
                    have hb23p6 := hb23p6.mono hx123.1
                    have hb23p7 := hb23p7.mono hx123.1
                    have hb23p8 := hb23p8.mono hx123.1
                    have hb23p17 := hb23p17.mono hx123.1
                    have hb123p9 := hb123p9.mono hx123.1
                    have hOfs103a0 := hx123.2 _ _ hOfs103a0 (jnot_of rfl)
                    have hKfs103a0 := hKfs103a0.mono hx123.1
                    have hAF27n91 := hx123.2 _ _ hAF27n91 (jnot_of rfl)
                    have d2 := hx123.2 _ _ d2 (jnot_of rfl)
                    have hR103 := hx123.2 _ _ hR103 (jnot_of rfl)
                    have hXa115 := hx123.2 _ _ hXa115 (jnot_of rfl)
                    have hYa115 := hx123.2 _ _ hYa115 (jnot_of rfl)
                    have hZa115 := hx123.2 _ _ hZa115 (jnot_of rfl)
                    obtain ⟨y123, rfl, hl123, hh123, hP123_0⟩ := hr123
                    refine Jz_if_eq (tgt := 133) jEq.rf dX7_forms_126 (by decide) (fun c126 => ?_) (fun c126 => ?_)
                    · have hjo : ¬ jow x1.toInt (jdg9 (jdir x1.toInt).toNat x2.toInt.toNat i5n91.toInt.toNat) x2.toInt.toNat := fun z => hP123_0.elim (fun q => absurd q.1 (by omega)) (fun q => q.2 ((jow_congr (fun q hq => hRe103 q hq)).mpr z))
                      refine Jz_iconst 0 dX7_forms_133 (by decide) (fun y133 he133 => ?_)
                      refine Jz_iadd jEq.rf he133 dX7_forms_134 (by omega) (by omega) (fun y134 he134 => ?_)
                      refine Jz_iast (r := ((-2147483648), 2147483647)) he67 he134 hW id dX7_forms_135 hAF27n91 rfl rfl (by omega) (by omega) (by omega) (by omega) (fun V135 G135 hW hx135 hA135 hp135 ho135 => ?_)
                      obtain ⟨hN135, hv135⟩ := WT_rngI (r := ((-2147483648), 2147483647)) hW id rfl hA135
                      clear hN135
                      have he := he.trans (hx135.sub (jsub_of rfl))
                      have hkp := hkp.trans (jkc.of hx135 (jnot_of rfl))
                      have hct := hct.keep hx135 (jdis_of rfl)
                      have ha0 := ha0.mono hx135.1
                      have hbm1 := hbm1.mono hx135.1
                      have hbm2 := hbm2.mono hx135.1
                      have hbm3 := hbm3.mono hx135.1
                      have hbm4 := hbm4.mono hx135.1
                      have hbm5 := hbm5.mono hx135.1
                      have hbm6 := hbm6.mono hx135.1
                      have hbfd := hbfd.mono hx135.1
                      have hbrd := hbrd.mono hx135.1
                      have hb23p4 := hb23p4.mono hx135.1
                      have hb23p6 := hb23p6.mono hx135.1
                      have hb23p7 := hb23p7.mono hx135.1
                      have hb23p8 := hb23p8.mono hx135.1
                      have hb23p17 := hb23p17.mono hx135.1
                      have hb123p9 := hb123p9.mono hx135.1
                      have hOfs103a0 := hx135.2 _ _ hOfs103a0 (jnot_of rfl)
                      have hKfs103a0 := hKfs103a0.mono hx135.1
                      have d2 := hx135.2 _ _ d2 (jnot_of rfl)
                      have hR103 := hx135.2 _ _ hR103 (jnot_of rfl)
                      have hXa115 := hx135.2 _ _ hXa115 (jnot_of rfl)
                      have hYa115 := hx135.2 _ _ hYa115 (jnot_of rfl)
                      have hZa115 := hx135.2 _ _ hZa115 (jnot_of rfl)
                      refine Jz_iinc 1 dX7_forms_136 rfl rfl (by decide) jEq.rf (by decide) (by omega) (by omega) (fun y136 he136 => ?_)
                      refine J_goto (tgt := 91) dX7_forms_139 (by decide) ?_
                      refine J.mask [true, true, true, true, true, true] ?_
                      exact ih91 _ y136 fs103a0 G135 hW he ha0 hbm1 hbm2 hbm3 hbm4 hbm5 hbm6 hbfd hbrd hb23p4 hb23p6 hb23p7 hb23p8 hb23p17 hkp hct hOfs103a0 hFfs103a0_11 hFfs103a0_12 hFfs103a0_13 hFfs103a0_14 hFfs103a0_15 hFfs103a0_16 hFfs103a0_18 hFfs103a0_19 hFfs103a0_4 hFfs103a0_6 hFfs103a0_7 hFfs103a0_8 hFfs103a0_17 hA135 d2 (by (try simp only [he136.eq, true_and, and_true]) <;> omega) (by rw [he136.eq, show (i5n91.toInt + 1).toNat = i5n91.toInt.toNat + 1 by omega, hp135, he134.eq, ← e112, hsum, jsu_skip (f := (jffo x1.toInt (jdir x1.toInt).toNat x2.toInt.toNat)) (c := i5n91.toInt.toNat) (show (jffo x1.toInt (jdir x1.toInt).toNat x2.toInt.toNat) i5n91.toInt.toNat = 0 from (jone_no (fun z => hjo z.2))), Int.add_zero]) (fun i hi => (ho135 i hi).trans (hoth i hi)) (by (try simp only [he136.eq, true_and, and_true]) <;> omega)
                    · have hjo : jow x1.toInt (jdg9 (jdir x1.toInt).toNat x2.toInt.toNat i5n91.toInt.toNat) x2.toInt.toNat := (jow_congr (fun q hq => hRe103 q hq)).mp (hP123_0.elim (fun q => q.2) (fun q => absurd q.1 (by omega)))
                      refine Jz_iconst 1 dX7_forms_129 (by decide) (fun y129 he129 => ?_)
                      refine J_goto (tgt := 134) dX7_forms_130 (by decide) ?_
                      refine Jz_iadd jEq.rf he129 dX7_forms_134 (by omega) (by omega) (fun y134 he134 => ?_)
                      refine Jz_iast (r := ((-2147483648), 2147483647)) he67 he134 hW id dX7_forms_135 hAF27n91 rfl rfl (by omega) (by omega) (by omega) (by omega) (fun V135 G135 hW hx135 hA135 hp135 ho135 => ?_)
                      obtain ⟨hN135, hv135⟩ := WT_rngI (r := ((-2147483648), 2147483647)) hW id rfl hA135
                      clear hN135
                      have he := he.trans (hx135.sub (jsub_of rfl))
                      have hkp := hkp.trans (jkc.of hx135 (jnot_of rfl))
                      have hct := hct.keep hx135 (jdis_of rfl)
                      have ha0 := ha0.mono hx135.1
                      have hbm1 := hbm1.mono hx135.1
                      have hbm2 := hbm2.mono hx135.1
                      have hbm3 := hbm3.mono hx135.1
                      have hbm4 := hbm4.mono hx135.1
                      have hbm5 := hbm5.mono hx135.1
                      have hbm6 := hbm6.mono hx135.1
                      have hbfd := hbfd.mono hx135.1
                      have hbrd := hbrd.mono hx135.1
                      have hb23p4 := hb23p4.mono hx135.1
                      have hb23p6 := hb23p6.mono hx135.1
                      have hb23p7 := hb23p7.mono hx135.1
                      have hb23p8 := hb23p8.mono hx135.1
                      have hb23p17 := hb23p17.mono hx135.1
                      have hb123p9 := hb123p9.mono hx135.1
                      have hOfs103a0 := hx135.2 _ _ hOfs103a0 (jnot_of rfl)
                      have hKfs103a0 := hKfs103a0.mono hx135.1
                      have d2 := hx135.2 _ _ d2 (jnot_of rfl)
                      have hR103 := hx135.2 _ _ hR103 (jnot_of rfl)
                      have hXa115 := hx135.2 _ _ hXa115 (jnot_of rfl)
                      have hYa115 := hx135.2 _ _ hYa115 (jnot_of rfl)
                      have hZa115 := hx135.2 _ _ hZa115 (jnot_of rfl)
                      refine Jz_iinc 1 dX7_forms_136 rfl rfl (by decide) jEq.rf (by decide) (by omega) (by omega) (fun y136 he136 => ?_)
                      refine J_goto (tgt := 91) dX7_forms_139 (by decide) ?_
                      refine J.mask [true, true, true, true, true, true] ?_
                      exact ih91 _ y136 fs103a0 G135 hW he ha0 hbm1 hbm2 hbm3 hbm4 hbm5 hbm6 hbfd hbrd hb23p4 hb23p6 hb23p7 hb23p8 hb23p17 hkp hct hOfs103a0 hFfs103a0_11 hFfs103a0_12 hFfs103a0_13 hFfs103a0_14 hFfs103a0_15 hFfs103a0_16 hFfs103a0_18 hFfs103a0_19 hFfs103a0_4 hFfs103a0_6 hFfs103a0_7 hFfs103a0_8 hFfs103a0_17 hA135 d2 (by (try simp only [he136.eq, true_and, and_true]) <;> omega) (by rw [he136.eq, show (i5n91.toInt + 1).toNat = i5n91.toInt.toNat + 1 by omega, hp135, he134.eq, ← e112, hsum, jsu_inc (f := (jffo x1.toInt (jdir x1.toInt).toNat x2.toInt.toNat)) (c := i5n91.toInt.toNat) (show (jffo x1.toInt (jdir x1.toInt).toNat x2.toInt.toNat) i5n91.toInt.toNat = 1 from (jone_yes ⟨hja, hjo⟩))]) (fun i hi => (ho135 i hi).trans (hoth i hi)) (by (try simp only [he136.eq, true_and, and_true]) <;> omega)
            refine J.mask [true, true, true, true, true, true] ?_
            exact L91 _ _ y88 fs23a0 FD hW he ha0 hbm1 hbm2 hbm3 hbm4 hbm5 hbm6 hbfd hbrd hb23p4 hb23p6 hb23p7 hb23p8 hb23p17 hkp hct hOfs23a0 hFfs23a0_11 hFfs23a0_12 hFfs23a0_13 hFfs23a0_14 hFfs23a0_15 hFfs23a0_16 hFfs23a0_18 hFfs23a0_19 hFfs23a0_4 hFfs23a0_6 hFfs23a0_7 hFfs23a0_8 hFfs23a0_17 d1 d2 (by (try simp only [he88.eq, true_and, and_true]) <;> omega) (by rw [he88.eq, e74]; (show y74.toInt = ((0 : Nat) : Int)); omega) (fun _ _ => rfl) (Nat.lt_succ_self _)
        · refine Jz_bipush (-5) dX7_forms_59 (by decide) (fun y59 he59 => ?_)
          exact J_ret (r := some (.int _)) dX7_forms_61 ⟨rfl, _, rfl, rfl⟩ (⟨⟨hW, he, ⟨_, rfl, (j_rng _).1, (j_rng _).2, (Or.inl ⟨by omega, Or.inl ⟨hmk.co.elim (fun q => Or.inr (by have w := q.2.2.1; rw [e36] at w; omega)) (fun q => Or.inl q.1), he59.eq⟩⟩)⟩⟩, hct, ⟨fd, rd, FD, RD, f1.mono he.1, f2.mono he.1, d1, d2, w1, w2⟩, hkp⟩)
    · refine Jz_bipush (-2) dX7_forms_17 (by decide) (fun y17 he17 => ?_)
      exact J_ret (r := some (.int _)) dX7_forms_19 ⟨rfl, _, rfl, rfl⟩ (⟨⟨hW, he, ⟨_, rfl, (j_rng _).1, (j_rng _).2, (Or.inr ⟨(by omega), he17.eq⟩)⟩⟩, hct, hrf, hkp⟩)
