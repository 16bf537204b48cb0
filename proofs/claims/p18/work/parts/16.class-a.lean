theorem w_X6_cell_x {tS : jTS} (d : Nat) (V0 : jH) {t n : Nat} {f : Nat → Int32} (a : Nat) (x : Int32) (hA : V0 a = some (.inl (t, n, .inl f))) (hN : n < 2 ^ 31) (ht : jT[t]? = some .int) (h0 : 0 ≤ x.toInt) (h1 : x.toInt < (n : Int)) : jTot tS mX6_cell d [.ref a, .int x] V0 0 0 (fun r V => (∃ y : Int32, r = some (.int y) ∧ f x.toInt.toNat = y) ∧ V = V0) := by
  refine jTot.of_J [some (.ref a), some (.int x)] moX6_cell (Nat.le_of_ble_eq_true rfl) rfl ?_
  refine J_aload_n dX6_cell_0 rfl ?_
  refine J_ifnull dX6_cell_1 ?_
  refine J_iload_n dX6_cell_4 rfl ?_
  refine J_if_lt (tgt := 20) dX6_cell_5 (by decide) (fun c => absurd c (by rw [jlt, Int32.toInt_zero]; omega)) (fun _ => ?_)
  refine J_iload_n dX6_cell_8 rfl ?_
  refine J_aload_n dX6_cell_9 rfl ?_
  refine J_alen (v := Int32.ofNat n) dX6_cell_10 hA ht rfl ?_
  refine J_icmp_ge (tgt := 20) dX6_cell_11 (by decide) (fun c => absurd c (by rw [jle, jn_len hN]; omega)) (fun _ => ?_)
  refine J_aload_n dX6_cell_14 rfl ?_
  refine J_iload_n dX6_cell_15 rfl ?_
  refine J_iald dX6_cell_16 hA ht (vp_in_n h0 h1) ?_
  refine J_goto (tgt := 21) dX6_cell_17 (by decide) ?_
  exact J_ret (r := some (.int _)) dX6_cell_21 ⟨rfl, _, rfl, rfl⟩ ⟨⟨_, rfl, rfl⟩, rfl⟩
theorem w_X6_put_x {tS : jTS} (d : Nat) (V0 : jH) {f : Nat → Int32} (a : Nat) (x y : Int32) (hW : WT V0) (hA : V0 a = some (.inl (9, 7, .inl f))) (h0 : 0 ≤ x.toInt) (h1 : x.toInt < 7) (hy : ¬ y.toInt = -1) : jTot tS mX6_put d [.ref a, .int x, .int y] V0 0 0 (fun r V => r = none ∧ WT V ∧ jeff [.inl 9] V0 V ∧ jle9 V0 V ∧ ∃ G : Nat → Int32, V a = some (.inl (9, 7, .inl G)) ∧ G x.toInt.toNat = y ∧ ((f x.toInt.toNat).toInt = -1 → jcn (-1) G 7 = jcn (-1) f 7 + 1)) := by
  refine jTot.of_J [some (.ref a), some (.int x), some (.int y)] moX6_put (Nat.le_of_ble_eq_true rfl) rfl ?_
  refine J_aload_n dX6_put_0 rfl ?_
  refine J_ifnull dX6_put_1 ?_
  refine J_iload_n dX6_put_4 rfl ?_
  refine J_if_lt (tgt := 18) dX6_put_5 (by decide) (fun c => absurd c (by rw [jlt, Int32.toInt_zero]; omega)) (fun _ => ?_)
  refine J_iload_n dX6_put_8 rfl ?_
  refine J_aload_n dX6_put_9 rfl ?_
  refine J_alen (v := Int32.ofNat 7) dX6_put_10 hA rfl rfl ?_
  refine J_icmp_ge (tgt := 18) dX6_put_11 (by decide) (fun c => absurd c (by rw [jle, jn_len (by decide)]; omega)) (fun _ => ?_)
  refine J_aload_n dX6_put_14 rfl ?_
  refine J_iload_n dX6_put_15 rfl ?_
  refine J_iload_n dX6_put_16 rfl ?_
  refine J_iast dX6_put_17 hA rfl (vp_in_n h0 h1) ?_
  have hG : (upd f x.toNatClampNeg y) x.toInt.toNat = y := pk_us
  have hO : ∀ k, k ≠ x.toInt.toNat → upd f x.toNatClampNeg y k = f k := fun k hk => pk_un hk
  generalize upd f x.toNatClampNeg y = G at hG hO ⊢
  have hW0 := hW a _ id hA
  have hWn : WT (jup V0 a (.inl (9, 7, .inl G))) := hW.put hA jrel.arr (fun _ => ⟨hW0.1, hW0.2.1, G, rfl, fun j _ => j_rng _⟩)
  have hy2 : ¬ (G x.toInt.toNat).toInt = -1 := by rw [hG]; exact hy
  refine J_ret (r := none) dX6_put_18 ⟨rfl, rfl⟩ ⟨rfl, hWn, jeff.put hA jrel.arr List.mem_cons_self, fun b h q => ?_, G, jup_self, hG, fun hm => jcn_up hm hy2 hO 7 (by omega)⟩
  by_cases hb : b = a
  · subst hb
    cases q.symm.trans hA
    exact ⟨G, jup_self, jcn_ge hy2 hO 7⟩
  · exact ⟨h, (jup_ne hb).trans q, Nat.le_refl _⟩
theorem w_X6_cell_q {tS : jTS} (d : Nat) (V0 : jH) {t n : Nat} {f : Nat → Int32} (a : Nat) (x : Int32) (hA : V0 a = some (.inl (t, n, .inl f))) (hN : n < 2 ^ 31) (ht : jT[t]? = some .int) (h0 : 0 ≤ x.toInt) : jTot tS mX6_cell d [.ref a, .int x] V0 0 0 (fun r V => (∃ y : Int32, r = some (.int y) ∧ (x.toInt < (n : Int) → f x.toInt.toNat = y)) ∧ V = V0) := by
  refine jTot.of_J [some (.ref a), some (.int x)] moX6_cell (Nat.le_of_ble_eq_true rfl) rfl ?_
  refine J_aload_n dX6_cell_0 rfl ?_
  refine J_ifnull dX6_cell_1 ?_
  refine J_iload_n dX6_cell_4 rfl ?_
  refine J_if_lt (tgt := 20) dX6_cell_5 (by decide) (fun c => absurd c (by rw [jlt, Int32.toInt_zero]; omega)) (fun _ => ?_)
  refine J_iload_n dX6_cell_8 rfl ?_
  refine J_aload_n dX6_cell_9 rfl ?_
  refine J_alen (v := Int32.ofNat n) dX6_cell_10 hA ht rfl ?_
  refine J_icmp_ge (tgt := 20) dX6_cell_11 (by decide) (fun c => ?_) (fun c => ?_)
  · rw [jle, jn_len hN] at c
    refine J_iconst (v := 0) dX6_cell_20 (by decide) ?_
    exact J_ret (r := some (.int _)) dX6_cell_21 ⟨rfl, _, rfl, rfl⟩ ⟨⟨_, rfl, fun h => absurd h (by omega)⟩, rfl⟩
  · rw [jle, jn_len hN] at c
    refine J_aload_n dX6_cell_14 rfl ?_
    refine J_iload_n dX6_cell_15 rfl ?_
    refine J_iald dX6_cell_16 hA ht (vp_in_n h0 (by omega)) ?_
    refine J_goto (tgt := 21) dX6_cell_17 (by decide) ?_
    exact J_ret (r := some (.int _)) dX6_cell_21 ⟨rfl, _, rfl, rfl⟩ ⟨⟨_, rfl, fun _ => rfl⟩, rfl⟩
theorem w_X6_put_z {tS : jTS} {t n : Nat} (d : Nat) (V0 : jH) {f : Nat → Int32} (a : Nat) (x y : Int32) (hW : WT V0) (hA : V0 a = some (.inl (t, n, .inl f))) (hN : n < 2 ^ 31) (hc : jAc t = .inl (-2147483648, 2147483647)) (ht : jT[t]? = some .int) (h0 : 0 ≤ x.toInt) : jTot tS mX6_put d [.ref a, .int x, .int y] V0 0 0 (fun r V => r = none ∧ WT V ∧ jeff [.inl t] V0 V ∧ (∀ b : Nat, b ≠ a → V b = V0 b) ∧ ∃ G : Nat → Int32, V a = some (.inl (t, n, .inl G)) ∧ (x.toInt < (n : Int) → G x.toInt.toNat = y) ∧ ∀ k : Nat, k ≠ x.toInt.toNat → G k = f k) := by
  refine jTot.of_J [some (.ref a), some (.int x), some (.int y)] moX6_put (Nat.le_of_ble_eq_true rfl) rfl ?_
  refine J_aload_n dX6_put_0 rfl ?_
  refine J_ifnull dX6_put_1 ?_
  refine J_iload_n dX6_put_4 rfl ?_
  refine J_if_lt (tgt := 18) dX6_put_5 (by decide) (fun c => absurd c (by rw [jlt, Int32.toInt_zero]; omega)) (fun _ => ?_)
  refine J_iload_n dX6_put_8 rfl ?_
  refine J_aload_n dX6_put_9 rfl ?_
  refine J_alen (v := Int32.ofNat n) dX6_put_10 hA ht rfl ?_
  refine J_icmp_ge (tgt := 18) dX6_put_11 (by decide) (fun c => ?_) (fun c => ?_)
  · rw [jle, jn_len hN] at c
    exact J_ret (r := none) dX6_put_18 ⟨rfl, rfl⟩ ⟨rfl, hW, jeff.refl _ _, fun _ _ => rfl, f, hA, fun h => absurd h (by omega), fun _ _ => rfl⟩
  · rw [jle, jn_len hN] at c
    refine J_aload_n dX6_put_14 rfl ?_
    refine J_iload_n dX6_put_15 rfl ?_
    refine J_iload_n dX6_put_16 rfl ?_
    refine Jz_iastB (r := (-2147483648, 2147483647)) jEq.rf jEq.rf hW id dX6_put_17 hA ht hc h0 (by omega) (j_rng _).1 (j_rng _).2 (fun V' G hW' hx hA' hp ho hB => ?_)
    exact J_ret (r := none) dX6_put_18 ⟨rfl, rfl⟩ ⟨rfl, hW', hx, hB, G, hA', fun _ => hp, ho⟩
theorem w_X6_rowOf_in {tS : jTS} (d : Nat) (V0 : jH) (a0 : Nat) (x1 : Int32) {fs : List Value} {md : Nat} {k : Int32} {f : Nat → Option Nat} {ro : Nat} (hO : V0 a0 = some (.inr (4, fs))) (h0 : fs[0]? = some (.ref md)) (h1 : fs[1]? = some (.int k)) (hA : V0 md = some (.inl (4, 16, .inr (.inr (.inr (.inr f)))))) (hx0 : 0 ≤ x1.toInt) (hx1 : x1.toInt < k.toInt) (hx2 : x1.toInt < 16) (hf : f x1.toInt.toNat = some ro) : jTot tS mX6_rowOf d [.ref a0, .int x1] V0 0 0 (fun r V => r = some (.ref ro) ∧ V = V0) := by
  refine jTot.of_J [some (.ref a0), some (.int x1)] moX6_rowOf (Nat.le_of_ble_eq_true rfl) rfl ?_
  refine J_iload_n dX6_rowOf_0 rfl ?_
  refine J_if_lt (tgt := 30) dX6_rowOf_1 (by decide) (fun c => absurd c (by rw [jlt, Int32.toInt_zero]; omega)) (fun _ => ?_)
  refine J_iload_n dX6_rowOf_4 rfl ?_
  refine J_aload_n dX6_rowOf_5 rfl ?_
  refine J_get jf_X6_15 dX6_rowOf_6 hO h1 ?_
  refine J_icmp_ge (tgt := 30) dX6_rowOf_9 (by decide) (fun c => absurd c (by rw [jle]; omega)) (fun _ => ?_)
  refine J_iload_n dX6_rowOf_12 rfl ?_
  refine J_aload_n dX6_rowOf_13 rfl ?_
  refine J_get jf_X6_11 dX6_rowOf_14 hO h0 ?_
  refine J_alen (v := Int32.ofNat 16) dX6_rowOf_17 hA rfl rfl ?_
  refine J_icmp_ge (tgt := 30) dX6_rowOf_18 (by decide) (fun c => absurd c (by rw [jle, jn_len (by decide)]; omega)) (fun _ => ?_)
  refine J_aload_n dX6_rowOf_21 rfl ?_
  refine J_get jf_X6_11 dX6_rowOf_22 hO h0 ?_
  refine J_iload_n dX6_rowOf_25 rfl ?_
  refine J_aald dX6_rowOf_26 (t := 4) rfl hA (vp_in_n hx0 hx2) ?_
  rw [show f x1.toNatClampNeg = some ro from hf, show va_rf (some ro) = Value.ref ro from rfl]
  refine J_goto (tgt := 31) dX6_rowOf_27 (by decide) ?_
  exact J_ret (r := some (.ref _)) dX6_rowOf_31 ⟨rfl, _, rfl, Or.inl ⟨_, rfl⟩⟩ ⟨rfl, rfl⟩
theorem w_X6_rowOf_out {tS : jTS} (d : Nat) (V0 : jH) (a0 : Nat) (x1 : Int32) {fs : List Value} {k : Int32} (hO : V0 a0 = some (.inr (4, fs))) (h1 : fs[1]? = some (.int k)) (hx : ¬ (0 ≤ x1.toInt ∧ x1.toInt < k.toInt)) : jTot tS mX6_rowOf d [.ref a0, .int x1] V0 0 0 (fun r V => r = some .null ∧ V = V0) := by
  refine jTot.of_J [some (.ref a0), some (.int x1)] moX6_rowOf (Nat.le_of_ble_eq_true rfl) rfl ?_
  refine J_iload_n dX6_rowOf_0 rfl ?_
  refine J_if_lt (tgt := 30) dX6_rowOf_1 (by decide) (fun c => ?_) (fun c => ?_)
  · refine J_null dX6_rowOf_30 ?_
    exact J_ret (r := some .null) dX6_rowOf_31 ⟨rfl, _, rfl, Or.inl ⟨_, rfl⟩⟩ ⟨rfl, rfl⟩
  · rw [jlt, Int32.toInt_zero] at c
    refine J_iload_n dX6_rowOf_4 rfl ?_
    refine J_aload_n dX6_rowOf_5 rfl ?_
    refine J_get jf_X6_15 dX6_rowOf_6 hO h1 ?_
    refine J_icmp_ge (tgt := 30) dX6_rowOf_9 (by decide) (fun c => ?_) (fun c2 => absurd c2 (fun q => q (by rw [jle]; omega)))
    refine J_null dX6_rowOf_30 ?_
    exact J_ret (r := some .null) dX6_rowOf_31 ⟨rfl, _, rfl, Or.inl ⟨_, rfl⟩⟩ ⟨rfl, rfl⟩
set_option maxRecDepth 100000 in
set_option maxHeartbeats 4000000 in
theorem w_J13_bitCount_95d88_z {tS : jTS} (d : Nat) (V0 : jH) (x0 : Int64)  (hd : 0 ≤ d)    : jTot tS mJ13_bitCount_95d88 d [.long x0] V0 0 0 (fun r V => (fun r _ => ∃ y : Int32, r = some (.int y) ∧ ((-2147483648) ≤ y.toInt) ∧ (y.toInt ≤ 2147483647) ∧ (y.toInt = ((jsum (fun n => (jbt x0 n).toNat) 64 : Nat) : Int))) r V ∧ V = V0) := by
  refine jTot.of_J [some (.long x0), none] moJ13_bitCount_95d88 (Nat.le_of_ble_eq_true rfl) rfl ?_
  refine J_lload_n dJ13_bitCount_95d88_0 rfl ?_
  refine J_lload_n dJ13_bitCount_95d88_1 rfl ?_
  refine J_iconst (v := 1) dJ13_bitCount_95d88_2 (by decide) ?_
  refine J_lushr dJ13_bitCount_95d88_3 rfl ?_
  refine J_ldc2 jw_k_J13_314 dJ13_bitCount_95d88_4 ?_
  refine J_land dJ13_bitCount_95d88_7 ?_
  refine J_lsub dJ13_bitCount_95d88_8 ?_
  refine J_lstore_n dJ13_bitCount_95d88_9 rfl (by decide) ?_
  refine J_lload_n dJ13_bitCount_95d88_10 rfl ?_
  refine J_ldc2 jw_k_J13_316 dJ13_bitCount_95d88_11 ?_
  refine J_land dJ13_bitCount_95d88_14 ?_
  refine J_lload_n dJ13_bitCount_95d88_15 rfl ?_
  refine J_iconst (v := 2) dJ13_bitCount_95d88_16 (by decide) ?_
  refine J_lushr dJ13_bitCount_95d88_17 rfl ?_
  refine J_ldc2 jw_k_J13_316 dJ13_bitCount_95d88_18 ?_
  refine J_land dJ13_bitCount_95d88_21 ?_
  refine J_ladd dJ13_bitCount_95d88_22 ?_
  refine J_lstore_n dJ13_bitCount_95d88_23 rfl (by decide) ?_
  refine J_lload_n dJ13_bitCount_95d88_24 rfl ?_
  refine J_lload_n dJ13_bitCount_95d88_25 rfl ?_
  refine J_iconst (v := 4) dJ13_bitCount_95d88_26 (by decide) ?_
  refine J_lushr dJ13_bitCount_95d88_27 rfl ?_
  refine J_ladd dJ13_bitCount_95d88_28 ?_
  refine J_ldc2 jw_k_J13_318 dJ13_bitCount_95d88_29 ?_
  refine J_land dJ13_bitCount_95d88_32 ?_
  refine J_lstore_n dJ13_bitCount_95d88_33 rfl (by decide) ?_
  refine J_lload_n dJ13_bitCount_95d88_34 rfl ?_
  refine J_lload_n dJ13_bitCount_95d88_35 rfl ?_
  refine J_bipush (v := 8) dJ13_bitCount_95d88_36 (by decide) ?_
  refine J_lushr dJ13_bitCount_95d88_38 rfl ?_
  refine J_ladd dJ13_bitCount_95d88_39 ?_
  refine J_lstore_n dJ13_bitCount_95d88_40 rfl (by decide) ?_
  refine J_lload_n dJ13_bitCount_95d88_41 rfl ?_
  refine J_lload_n dJ13_bitCount_95d88_42 rfl ?_
  refine J_bipush (v := 16) dJ13_bitCount_95d88_43 (by decide) ?_
  refine J_lushr dJ13_bitCount_95d88_45 rfl ?_
  refine J_ladd dJ13_bitCount_95d88_46 ?_
  refine J_lstore_n dJ13_bitCount_95d88_47 rfl (by decide) ?_
  refine J_lload_n dJ13_bitCount_95d88_48 rfl ?_
  refine J_lload_n dJ13_bitCount_95d88_49 rfl ?_
  refine J_bipush (v := 32) dJ13_bitCount_95d88_50 (by decide) ?_
  refine J_lushr dJ13_bitCount_95d88_52 rfl ?_
  refine J_ladd dJ13_bitCount_95d88_53 ?_
  refine J_lstore_n dJ13_bitCount_95d88_54 rfl (by decide) ?_
  refine J_lload_n dJ13_bitCount_95d88_55 rfl ?_
  refine J_l2i dJ13_bitCount_95d88_56 rfl ?_
  refine J_bipush (v := 127) dJ13_bitCount_95d88_57 (by decide) ?_
  refine J_iand dJ13_bitCount_95d88_59 ?_
  exact J_ret (r := some (.int _)) dJ13_bitCount_95d88_60 ⟨rfl, _, rfl, rfl⟩ (⟨⟨_, rfl, (j_rng _).1, (j_rng _).2, jbc x0⟩, rfl⟩)
set_option maxRecDepth 100000 in
set_option maxHeartbeats 4000000 in
theorem w_X0_turnedInCubes_z {tS : jTS} (d : Nat) (V0 : jH) (x0 : Int32) (x1 : Int32)  (hd : 0 ≤ d)    (hp0 : 0 ≤ x0.toInt) (hp1 : x0.toInt < 48) (hp2 : 0 ≤ x1.toInt) (hp3 : x1.toInt < 6) : jTot tS mX0_turnedInCubes d [.int x0, .int x1] V0 0 0 (fun r V => (fun r _ => ∃ y : Int32, r = some (.int y) ∧ ((-2147483648) ≤ y.toInt) ∧ (y.toInt ≤ 2147483647) ∧ (y.toInt = jtc x0.toInt x1.toInt)) r V ∧ V = V0) := by
  refine jTot.of_J [some (.int x0), some (.int x1), none, none, none, none, none] moX0_turnedInCubes (Nat.le_of_ble_eq_true rfl) rfl ?_
  refine J_iload_n dX0_turnedInCubes_0 rfl ?_
  refine J_iconst (v := 3) dX0_turnedInCubes_1 (by decide) ?_
  refine J_icmp_ge (tgt := 9) dX0_turnedInCubes_2 (by decide) (fun c2 => ?_) (fun c2 => ?_)
  · refine J_iload_n dX0_turnedInCubes_9 rfl ?_
    refine J_iconst (v := 3) dX0_turnedInCubes_10 (by decide) ?_
    refine J_isub dX0_turnedInCubes_11 ?_
    refine J_istore_n dX0_turnedInCubes_12 rfl (by decide) ?_
    refine J_iload_n dX0_turnedInCubes_13 rfl ?_
    refine J_iconst (v := 3) dX0_turnedInCubes_14 (by decide) ?_
    refine J_icmp_lt (tgt := 22) dX0_turnedInCubes_15 (by decide) (fun c15 => ?_) (fun c15 => ?_)
    · refine J_iconst (v := 0) dX0_turnedInCubes_22 (by decide) ?_
      refine J_istore_n dX0_turnedInCubes_23 rfl (by decide) ?_
      refine J_iload_n dX0_turnedInCubes_24 rfl ?_
      refine J_bipush (v := 7) dX0_turnedInCubes_25 (by decide) ?_
      refine J_iand dX0_turnedInCubes_27 ?_
      refine J_iload_n dX0_turnedInCubes_28 rfl ?_
      refine J_ishr dX0_turnedInCubes_29 ?_
      refine J_iconst (v := 1) dX0_turnedInCubes_30 (by decide) ?_
      refine J_iand dX0_turnedInCubes_31 ?_
      refine J_iconst (v := 1) dX0_turnedInCubes_32 (by decide) ?_
      refine J_icmp_ne (tgt := 40) dX0_turnedInCubes_33 (by decide) (fun c33 => ?_) (fun c33 => ?_)
      · refine J_iconst (v := 0) dX0_turnedInCubes_40 (by decide) ?_
        refine J_istore dX0_turnedInCubes_41 rfl (by decide) ?_
        refine J_iconst (v := 3) dX0_turnedInCubes_43 (by decide) ?_
        refine J_iload_n dX0_turnedInCubes_44 rfl ?_
        refine J_iconst (v := 3) dX0_turnedInCubes_45 (by decide) ?_
        refine J_ishr dX0_turnedInCubes_46 ?_
        refine J_imul dX0_turnedInCubes_47 ?_
        refine J_iload_n dX0_turnedInCubes_48 rfl ?_
        refine J_iadd dX0_turnedInCubes_49 ?_
        refine J_istore dX0_turnedInCubes_50 rfl (by decide) ?_
        refine J_iload dX0_turnedInCubes_52 rfl ?_
        refine J_if_lt (tgt := 75) dX0_turnedInCubes_54 (by decide) (fun c54 => ?_) (fun c54 => ?_)
        · refine J_iload_n dX0_turnedInCubes_75 rfl ?_
          refine J_istore dX0_turnedInCubes_76 rfl (by decide) ?_
          refine J_iload_n dX0_turnedInCubes_78 rfl ?_
          refine J_iload dX0_turnedInCubes_79 rfl ?_
          refine J_icmp_ne (tgt := 89) dX0_turnedInCubes_81 (by decide) (fun c81 => ?_) (fun c81 => ?_)
          · refine J_iload dX0_turnedInCubes_89 rfl ?_
            refine J_iconst (v := 3) dX0_turnedInCubes_91 (by decide) ?_
            refine J_iadd dX0_turnedInCubes_92 ?_
            exact J_ret (r := some (.int _)) dX0_turnedInCubes_93 ⟨rfl, _, rfl, rfl⟩ (⟨⟨_, rfl, (j_rng _).1, (j_rng _).2, (by have hbx0 : x0.toInt < 48 := hp1; have hbx1 : x1.toInt < 6 := hp3; obtain ⟨nx0, hnx0, rfl⟩ := jnat hp0 hbx0 (by decide); obtain ⟨nx1, hnx1, rfl⟩ := jnat hp2 hbx1 (by decide); clear hbx0 hbx1; clear hp0 hp1 hp2 hp3; have hcs := (jband (decide_eq_true c2) (jband (decide_eq_true c15) (jband (decide_eq_true c33) (jband (decide_eq_true c54) (decide_eq_true c81))))); clear c2 c15 c33 c54 c81; apply of_decide_eq_true; revert hcs; revert nx1; revert nx0; decide +kernel)⟩, rfl⟩)
          · refine J_iload dX0_turnedInCubes_84 rfl ?_
            refine J_goto (tgt := 93) dX0_turnedInCubes_86 (by decide) ?_
            exact J_ret (r := some (.int _)) dX0_turnedInCubes_93 ⟨rfl, _, rfl, rfl⟩ (⟨⟨_, rfl, (j_rng _).1, (j_rng _).2, (by have hbx0 : x0.toInt < 48 := hp1; have hbx1 : x1.toInt < 6 := hp3; obtain ⟨nx0, hnx0, rfl⟩ := jnat hp0 hbx0 (by decide); obtain ⟨nx1, hnx1, rfl⟩ := jnat hp2 hbx1 (by decide); clear hbx0 hbx1; clear hp0 hp1 hp2 hp3; have hcs := (jband (decide_eq_true c2) (jband (decide_eq_true c15) (jband (decide_eq_true c33) (jband (decide_eq_true c54) (decide_eq_true c81))))); clear c2 c15 c33 c54 c81; apply of_decide_eq_true; revert hcs; revert nx1; revert nx0; decide +kernel)⟩, rfl⟩)
        · refine J_iload dX0_turnedInCubes_57 rfl ?_
          refine J_gets (k := 2) rfl jw_fl_X0_33 dX0_turnedInCubes_59 ?_
          refine J_tlen (k := 2) rfl dX0_turnedInCubes_62 rfl ?_
          refine J_icmp_ge (tgt := 75) dX0_turnedInCubes_63 (by decide) (fun c63 => ?_) (fun c63 => ?_)
          · refine J_iload_n dX0_turnedInCubes_75 rfl ?_
            refine J_istore dX0_turnedInCubes_76 rfl (by decide) ?_
            refine J_iload_n dX0_turnedInCubes_78 rfl ?_
            refine J_iload dX0_turnedInCubes_79 rfl ?_
            refine J_icmp_ne (tgt := 89) dX0_turnedInCubes_81 (by decide) (fun c81 => ?_) (fun c81 => ?_)
            · refine J_iload dX0_turnedInCubes_89 rfl ?_
              refine J_iconst (v := 3) dX0_turnedInCubes_91 (by decide) ?_
              refine J_iadd dX0_turnedInCubes_92 ?_
              exact J_ret (r := some (.int _)) dX0_turnedInCubes_93 ⟨rfl, _, rfl, rfl⟩ (⟨⟨_, rfl, (j_rng _).1, (j_rng _).2, (by have hbx0 : x0.toInt < 48 := hp1; have hbx1 : x1.toInt < 6 := hp3; obtain ⟨nx0, hnx0, rfl⟩ := jnat hp0 hbx0 (by decide); obtain ⟨nx1, hnx1, rfl⟩ := jnat hp2 hbx1 (by decide); clear hbx0 hbx1; clear hp0 hp1 hp2 hp3; have hcs := (jband (decide_eq_true c2) (jband (decide_eq_true c15) (jband (decide_eq_true c33) (jband (decide_eq_true c54) (jband (decide_eq_true c63) (decide_eq_true c81)))))); clear c2 c15 c33 c54 c63 c81; apply of_decide_eq_true; revert hcs; revert nx1; revert nx0; decide +kernel)⟩, rfl⟩)
            · refine J_iload dX0_turnedInCubes_84 rfl ?_
              refine J_goto (tgt := 93) dX0_turnedInCubes_86 (by decide) ?_
              exact J_ret (r := some (.int _)) dX0_turnedInCubes_93 ⟨rfl, _, rfl, rfl⟩ (⟨⟨_, rfl, (j_rng _).1, (j_rng _).2, (by have hbx0 : x0.toInt < 48 := hp1; have hbx1 : x1.toInt < 6 := hp3; obtain ⟨nx0, hnx0, rfl⟩ := jnat hp0 hbx0 (by decide); obtain ⟨nx1, hnx1, rfl⟩ := jnat hp2 hbx1 (by decide); clear hbx0 hbx1; clear hp0 hp1 hp2 hp3; have hcs := (jband (decide_eq_true c2) (jband (decide_eq_true c15) (jband (decide_eq_true c33) (jband (decide_eq_true c54) (jband (decide_eq_true c63) (decide_eq_true c81)))))); clear c2 c15 c33 c54 c63 c81; apply of_decide_eq_true; revert hcs; revert nx1; revert nx0; decide +kernel)⟩, rfl⟩)
          · refine J_gets (k := 2) rfl jw_fl_X0_33 dX0_turnedInCubes_66 ?_
            refine J_iload dX0_turnedInCubes_69 rfl ?_
            refine J_ti (k := 2) rfl rfl dX0_turnedInCubes_71 (by exact vp_in_g (by assumption) (by assumption) (by decide)) rfl ?_
            refine J_goto (tgt := 76) dX0_turnedInCubes_72 (by decide) ?_
            refine J_istore dX0_turnedInCubes_76 rfl (by decide) ?_
            refine J_iload_n dX0_turnedInCubes_78 rfl ?_
            refine J_iload dX0_turnedInCubes_79 rfl ?_
            refine J_icmp_ne (tgt := 89) dX0_turnedInCubes_81 (by decide) (fun c81 => ?_) (fun c81 => ?_)
            · refine J_iload dX0_turnedInCubes_89 rfl ?_
              refine J_iconst (v := 3) dX0_turnedInCubes_91 (by decide) ?_
              refine J_iadd dX0_turnedInCubes_92 ?_
              exact J_ret (r := some (.int _)) dX0_turnedInCubes_93 ⟨rfl, _, rfl, rfl⟩ (⟨⟨_, rfl, (j_rng _).1, (j_rng _).2, (by have hbx0 : x0.toInt < 48 := hp1; have hbx1 : x1.toInt < 6 := hp3; obtain ⟨nx0, hnx0, rfl⟩ := jnat hp0 hbx0 (by decide); obtain ⟨nx1, hnx1, rfl⟩ := jnat hp2 hbx1 (by decide); clear hbx0 hbx1; clear hp0 hp1 hp2 hp3; have hcs := (jband (decide_eq_true c2) (jband (decide_eq_true c15) (jband (decide_eq_true c33) (jband (decide_eq_true c54) (jband (decide_eq_true c63) (decide_eq_true c81)))))); clear c2 c15 c33 c54 c63 c81; apply of_decide_eq_true; revert hcs; revert nx1; revert nx0; decide +kernel)⟩, rfl⟩)
            · refine J_iload dX0_turnedInCubes_84 rfl ?_
              refine J_goto (tgt := 93) dX0_turnedInCubes_86 (by decide) ?_
              exact J_ret (r := some (.int _)) dX0_turnedInCubes_93 ⟨rfl, _, rfl, rfl⟩ (⟨⟨_, rfl, (j_rng _).1, (j_rng _).2, (by have hbx0 : x0.toInt < 48 := hp1; have hbx1 : x1.toInt < 6 := hp3; obtain ⟨nx0, hnx0, rfl⟩ := jnat hp0 hbx0 (by decide); obtain ⟨nx1, hnx1, rfl⟩ := jnat hp2 hbx1 (by decide); clear hbx0 hbx1; clear hp0 hp1 hp2 hp3; have hcs := (jband (decide_eq_true c2) (jband (decide_eq_true c15) (jband (decide_eq_true c33) (jband (decide_eq_true c54) (jband (decide_eq_true c63) (decide_eq_true c81)))))); clear c2 c15 c33 c54 c63 c81; apply of_decide_eq_true; revert hcs; revert nx1; revert nx0; decide +kernel)⟩, rfl⟩)
      · refine J_iconst (v := 1) dX0_turnedInCubes_36 (by decide) ?_
        refine J_goto (tgt := 41) dX0_turnedInCubes_37 (by decide) ?_
        refine J_istore dX0_turnedInCubes_41 rfl (by decide) ?_
        refine J_iconst (v := 3) dX0_turnedInCubes_43 (by decide) ?_
        refine J_iload_n dX0_turnedInCubes_44 rfl ?_
        refine J_iconst (v := 3) dX0_turnedInCubes_45 (by decide) ?_
        refine J_ishr dX0_turnedInCubes_46 ?_
        refine J_imul dX0_turnedInCubes_47 ?_
        refine J_iload_n dX0_turnedInCubes_48 rfl ?_
        refine J_iadd dX0_turnedInCubes_49 ?_
        refine J_istore dX0_turnedInCubes_50 rfl (by decide) ?_
        refine J_iload dX0_turnedInCubes_52 rfl ?_
        refine J_if_lt (tgt := 75) dX0_turnedInCubes_54 (by decide) (fun c54 => ?_) (fun c54 => ?_)
        · refine J_iload_n dX0_turnedInCubes_75 rfl ?_
          refine J_istore dX0_turnedInCubes_76 rfl (by decide) ?_
          refine J_iload_n dX0_turnedInCubes_78 rfl ?_
          refine J_iload dX0_turnedInCubes_79 rfl ?_
          refine J_icmp_ne (tgt := 89) dX0_turnedInCubes_81 (by decide) (fun c81 => ?_) (fun c81 => ?_)
          · refine J_iload dX0_turnedInCubes_89 rfl ?_
            refine J_iconst (v := 3) dX0_turnedInCubes_91 (by decide) ?_
            refine J_iadd dX0_turnedInCubes_92 ?_
            exact J_ret (r := some (.int _)) dX0_turnedInCubes_93 ⟨rfl, _, rfl, rfl⟩ (⟨⟨_, rfl, (j_rng _).1, (j_rng _).2, (by have hbx0 : x0.toInt < 48 := hp1; have hbx1 : x1.toInt < 6 := hp3; obtain ⟨nx0, hnx0, rfl⟩ := jnat hp0 hbx0 (by decide); obtain ⟨nx1, hnx1, rfl⟩ := jnat hp2 hbx1 (by decide); clear hbx0 hbx1; clear hp0 hp1 hp2 hp3; have hcs := (jband (decide_eq_true c2) (jband (decide_eq_true c15) (jband (decide_eq_true c33) (jband (decide_eq_true c54) (decide_eq_true c81))))); clear c2 c15 c33 c54 c81; apply of_decide_eq_true; revert hcs; revert nx1; revert nx0; decide +kernel)⟩, rfl⟩)
          · refine J_iload dX0_turnedInCubes_84 rfl ?_
            refine J_goto (tgt := 93) dX0_turnedInCubes_86 (by decide) ?_
            exact J_ret (r := some (.int _)) dX0_turnedInCubes_93 ⟨rfl, _, rfl, rfl⟩ (⟨⟨_, rfl, (j_rng _).1, (j_rng _).2, (by have hbx0 : x0.toInt < 48 := hp1; have hbx1 : x1.toInt < 6 := hp3; obtain ⟨nx0, hnx0, rfl⟩ := jnat hp0 hbx0 (by decide); obtain ⟨nx1, hnx1, rfl⟩ := jnat hp2 hbx1 (by decide); clear hbx0 hbx1; clear hp0 hp1 hp2 hp3; have hcs := (jband (decide_eq_true c2) (jband (decide_eq_true c15) (jband (decide_eq_true c33) (jband (decide_eq_true c54) (decide_eq_true c81))))); clear c2 c15 c33 c54 c81; apply of_decide_eq_true; revert hcs; revert nx1; revert nx0; decide +kernel)⟩, rfl⟩)
        · refine J_iload dX0_turnedInCubes_57 rfl ?_
          refine J_gets (k := 2) rfl jw_fl_X0_33 dX0_turnedInCubes_59 ?_
          refine J_tlen (k := 2) rfl dX0_turnedInCubes_62 rfl ?_
          refine J_icmp_ge (tgt := 75) dX0_turnedInCubes_63 (by decide) (fun c63 => ?_) (fun c63 => ?_)
          · refine J_iload_n dX0_turnedInCubes_75 rfl ?_
            refine J_istore dX0_turnedInCubes_76 rfl (by decide) ?_
            refine J_iload_n dX0_turnedInCubes_78 rfl ?_
            refine J_iload dX0_turnedInCubes_79 rfl ?_
            refine J_icmp_ne (tgt := 89) dX0_turnedInCubes_81 (by decide) (fun c81 => ?_) (fun c81 => ?_)
            · refine J_iload dX0_turnedInCubes_89 rfl ?_
              refine J_iconst (v := 3) dX0_turnedInCubes_91 (by decide) ?_
              refine J_iadd dX0_turnedInCubes_92 ?_
              exact J_ret (r := some (.int _)) dX0_turnedInCubes_93 ⟨rfl, _, rfl, rfl⟩ (⟨⟨_, rfl, (j_rng _).1, (j_rng _).2, (by have hbx0 : x0.toInt < 48 := hp1; have hbx1 : x1.toInt < 6 := hp3; obtain ⟨nx0, hnx0, rfl⟩ := jnat hp0 hbx0 (by decide); obtain ⟨nx1, hnx1, rfl⟩ := jnat hp2 hbx1 (by decide); clear hbx0 hbx1; clear hp0 hp1 hp2 hp3; have hcs := (jband (decide_eq_true c2) (jband (decide_eq_true c15) (jband (decide_eq_true c33) (jband (decide_eq_true c54) (jband (decide_eq_true c63) (decide_eq_true c81)))))); clear c2 c15 c33 c54 c63 c81; apply of_decide_eq_true; revert hcs; revert nx1; revert nx0; decide +kernel)⟩, rfl⟩)
            · refine J_iload dX0_turnedInCubes_84 rfl ?_
              refine J_goto (tgt := 93) dX0_turnedInCubes_86 (by decide) ?_
              exact J_ret (r := some (.int _)) dX0_turnedInCubes_93 ⟨rfl, _, rfl, rfl⟩ (⟨⟨_, rfl, (j_rng _).1, (j_rng _).2, (by have hbx0 : x0.toInt < 48 := hp1; have hbx1 : x1.toInt < 6 := hp3; obtain ⟨nx0, hnx0, rfl⟩ := jnat hp0 hbx0 (by decide); obtain ⟨nx1, hnx1, rfl⟩ := jnat hp2 hbx1 (by decide); clear hbx0 hbx1; clear hp0 hp1 hp2 hp3; have hcs := (jband (decide_eq_true c2) (jband (decide_eq_true c15) (jband (decide_eq_true c33) (jband (decide_eq_true c54) (jband (decide_eq_true c63) (decide_eq_true c81)))))); clear c2 c15 c33 c54 c63 c81; apply of_decide_eq_true; revert hcs; revert nx1; revert nx0; decide +kernel)⟩, rfl⟩)
          · refine J_gets (k := 2) rfl jw_fl_X0_33 dX0_turnedInCubes_66 ?_
            refine J_iload dX0_turnedInCubes_69 rfl ?_
            refine J_ti (k := 2) rfl rfl dX0_turnedInCubes_71 (by exact vp_in_g (by assumption) (by assumption) (by decide)) rfl ?_
            refine J_goto (tgt := 76) dX0_turnedInCubes_72 (by decide) ?_
            refine J_istore dX0_turnedInCubes_76 rfl (by decide) ?_
            refine J_iload_n dX0_turnedInCubes_78 rfl ?_
            refine J_iload dX0_turnedInCubes_79 rfl ?_
            refine J_icmp_ne (tgt := 89) dX0_turnedInCubes_81 (by decide) (fun c81 => ?_) (fun c81 => ?_)
            · refine J_iload dX0_turnedInCubes_89 rfl ?_
              refine J_iconst (v := 3) dX0_turnedInCubes_91 (by decide) ?_
              refine J_iadd dX0_turnedInCubes_92 ?_
              exact J_ret (r := some (.int _)) dX0_turnedInCubes_93 ⟨rfl, _, rfl, rfl⟩ (⟨⟨_, rfl, (j_rng _).1, (j_rng _).2, (by have hbx0 : x0.toInt < 48 := hp1; have hbx1 : x1.toInt < 6 := hp3; obtain ⟨nx0, hnx0, rfl⟩ := jnat hp0 hbx0 (by decide); obtain ⟨nx1, hnx1, rfl⟩ := jnat hp2 hbx1 (by decide); clear hbx0 hbx1; clear hp0 hp1 hp2 hp3; have hcs := (jband (decide_eq_true c2) (jband (decide_eq_true c15) (jband (decide_eq_true c33) (jband (decide_eq_true c54) (jband (decide_eq_true c63) (decide_eq_true c81)))))); clear c2 c15 c33 c54 c63 c81; apply of_decide_eq_true; revert hcs; revert nx1; revert nx0; decide +kernel)⟩, rfl⟩)
            · refine J_iload dX0_turnedInCubes_84 rfl ?_
              refine J_goto (tgt := 93) dX0_turnedInCubes_86 (by decide) ?_
              exact J_ret (r := some (.int _)) dX0_turnedInCubes_93 ⟨rfl, _, rfl, rfl⟩ (⟨⟨_, rfl, (j_rng _).1, (j_rng _).2, (by have hbx0 : x0.toInt < 48 := hp1; have hbx1 : x1.toInt < 6 := hp3; obtain ⟨nx0, hnx0, rfl⟩ := jnat hp0 hbx0 (by decide); obtain ⟨nx1, hnx1, rfl⟩ := jnat hp2 hbx1 (by decide); clear hbx0 hbx1; clear hp0 hp1 hp2 hp3; have hcs := (jband (decide_eq_true c2) (jband (decide_eq_true c15) (jband (decide_eq_true c33) (jband (decide_eq_true c54) (jband (decide_eq_true c63) (decide_eq_true c81)))))); clear c2 c15 c33 c54 c63 c81; apply of_decide_eq_true; revert hcs; revert nx1; revert nx0; decide +kernel)⟩, rfl⟩)
    · refine J_iconst (v := 1) dX0_turnedInCubes_18 (by decide) ?_
      refine J_goto (tgt := 23) dX0_turnedInCubes_19 (by decide) ?_
      refine J_istore_n dX0_turnedInCubes_23 rfl (by decide) ?_
      refine J_iload_n dX0_turnedInCubes_24 rfl ?_
      refine J_bipush (v := 7) dX0_turnedInCubes_25 (by decide) ?_
      refine J_iand dX0_turnedInCubes_27 ?_
      refine J_iload_n dX0_turnedInCubes_28 rfl ?_
      refine J_ishr dX0_turnedInCubes_29 ?_
      refine J_iconst (v := 1) dX0_turnedInCubes_30 (by decide) ?_
      refine J_iand dX0_turnedInCubes_31 ?_
      refine J_iconst (v := 1) dX0_turnedInCubes_32 (by decide) ?_
      refine J_icmp_ne (tgt := 40) dX0_turnedInCubes_33 (by decide) (fun c33 => ?_) (fun c33 => ?_)
      · refine J_iconst (v := 0) dX0_turnedInCubes_40 (by decide) ?_
        refine J_istore dX0_turnedInCubes_41 rfl (by decide) ?_
        refine J_iconst (v := 3) dX0_turnedInCubes_43 (by decide) ?_
        refine J_iload_n dX0_turnedInCubes_44 rfl ?_
        refine J_iconst (v := 3) dX0_turnedInCubes_45 (by decide) ?_
        refine J_ishr dX0_turnedInCubes_46 ?_
        refine J_imul dX0_turnedInCubes_47 ?_
        refine J_iload_n dX0_turnedInCubes_48 rfl ?_
        refine J_iadd dX0_turnedInCubes_49 ?_
        refine J_istore dX0_turnedInCubes_50 rfl (by decide) ?_
        refine J_iload dX0_turnedInCubes_52 rfl ?_
        refine J_if_lt (tgt := 75) dX0_turnedInCubes_54 (by decide) (fun c54 => ?_) (fun c54 => ?_)
        · refine J_iload_n dX0_turnedInCubes_75 rfl ?_
          refine J_istore dX0_turnedInCubes_76 rfl (by decide) ?_
          refine J_iload_n dX0_turnedInCubes_78 rfl ?_
          refine J_iload dX0_turnedInCubes_79 rfl ?_
          refine J_icmp_ne (tgt := 89) dX0_turnedInCubes_81 (by decide) (fun c81 => ?_) (fun c81 => ?_)
          · refine J_iload dX0_turnedInCubes_89 rfl ?_
            refine J_iconst (v := 3) dX0_turnedInCubes_91 (by decide) ?_
            refine J_iadd dX0_turnedInCubes_92 ?_
            exact J_ret (r := some (.int _)) dX0_turnedInCubes_93 ⟨rfl, _, rfl, rfl⟩ (⟨⟨_, rfl, (j_rng _).1, (j_rng _).2, (by have hbx0 : x0.toInt < 48 := hp1; have hbx1 : x1.toInt < 6 := hp3; obtain ⟨nx0, hnx0, rfl⟩ := jnat hp0 hbx0 (by decide); obtain ⟨nx1, hnx1, rfl⟩ := jnat hp2 hbx1 (by decide); clear hbx0 hbx1; clear hp0 hp1 hp2 hp3; have hcs := (jband (decide_eq_true c2) (jband (decide_eq_true c15) (jband (decide_eq_true c33) (jband (decide_eq_true c54) (decide_eq_true c81))))); clear c2 c15 c33 c54 c81; apply of_decide_eq_true; revert hcs; revert nx1; revert nx0; decide +kernel)⟩, rfl⟩)
          · refine J_iload dX0_turnedInCubes_84 rfl ?_
            refine J_goto (tgt := 93) dX0_turnedInCubes_86 (by decide) ?_
            exact J_ret (r := some (.int _)) dX0_turnedInCubes_93 ⟨rfl, _, rfl, rfl⟩ (⟨⟨_, rfl, (j_rng _).1, (j_rng _).2, (by have hbx0 : x0.toInt < 48 := hp1; have hbx1 : x1.toInt < 6 := hp3; obtain ⟨nx0, hnx0, rfl⟩ := jnat hp0 hbx0 (by decide); obtain ⟨nx1, hnx1, rfl⟩ := jnat hp2 hbx1 (by decide); clear hbx0 hbx1; clear hp0 hp1 hp2 hp3; have hcs := (jband (decide_eq_true c2) (jband (decide_eq_true c15) (jband (decide_eq_true c33) (jband (decide_eq_true c54) (decide_eq_true c81))))); clear c2 c15 c33 c54 c81; apply of_decide_eq_true; revert hcs; revert nx1; revert nx0; decide +kernel)⟩, rfl⟩)
        · refine J_iload dX0_turnedInCubes_57 rfl ?_
          refine J_gets (k := 2) rfl jw_fl_X0_33 dX0_turnedInCubes_59 ?_
          refine J_tlen (k := 2) rfl dX0_turnedInCubes_62 rfl ?_
          refine J_icmp_ge (tgt := 75) dX0_turnedInCubes_63 (by decide) (fun c63 => ?_) (fun c63 => ?_)
          · refine J_iload_n dX0_turnedInCubes_75 rfl ?_
            refine J_istore dX0_turnedInCubes_76 rfl (by decide) ?_
            refine J_iload_n dX0_turnedInCubes_78 rfl ?_
            refine J_iload dX0_turnedInCubes_79 rfl ?_
            refine J_icmp_ne (tgt := 89) dX0_turnedInCubes_81 (by decide) (fun c81 => ?_) (fun c81 => ?_)
            · refine J_iload dX0_turnedInCubes_89 rfl ?_
              refine J_iconst (v := 3) dX0_turnedInCubes_91 (by decide) ?_
              refine J_iadd dX0_turnedInCubes_92 ?_
              exact J_ret (r := some (.int _)) dX0_turnedInCubes_93 ⟨rfl, _, rfl, rfl⟩ (⟨⟨_, rfl, (j_rng _).1, (j_rng _).2, (by have hbx0 : x0.toInt < 48 := hp1; have hbx1 : x1.toInt < 6 := hp3; obtain ⟨nx0, hnx0, rfl⟩ := jnat hp0 hbx0 (by decide); obtain ⟨nx1, hnx1, rfl⟩ := jnat hp2 hbx1 (by decide); clear hbx0 hbx1; clear hp0 hp1 hp2 hp3; have hcs := (jband (decide_eq_true c2) (jband (decide_eq_true c15) (jband (decide_eq_true c33) (jband (decide_eq_true c54) (jband (decide_eq_true c63) (decide_eq_true c81)))))); clear c2 c15 c33 c54 c63 c81; apply of_decide_eq_true; revert hcs; revert nx1; revert nx0; decide +kernel)⟩, rfl⟩)
            · refine J_iload dX0_turnedInCubes_84 rfl ?_
              refine J_goto (tgt := 93) dX0_turnedInCubes_86 (by decide) ?_
              exact J_ret (r := some (.int _)) dX0_turnedInCubes_93 ⟨rfl, _, rfl, rfl⟩ (⟨⟨_, rfl, (j_rng _).1, (j_rng _).2, (by have hbx0 : x0.toInt < 48 := hp1; have hbx1 : x1.toInt < 6 := hp3; obtain ⟨nx0, hnx0, rfl⟩ := jnat hp0 hbx0 (by decide); obtain ⟨nx1, hnx1, rfl⟩ := jnat hp2 hbx1 (by decide); clear hbx0 hbx1; clear hp0 hp1 hp2 hp3; have hcs := (jband (decide_eq_true c2) (jband (decide_eq_true c15) (jband (decide_eq_true c33) (jband (decide_eq_true c54) (jband (decide_eq_true c63) (decide_eq_true c81)))))); clear c2 c15 c33 c54 c63 c81; apply of_decide_eq_true; revert hcs; revert nx1; revert nx0; decide +kernel)⟩, rfl⟩)
          · refine J_gets (k := 2) rfl jw_fl_X0_33 dX0_turnedInCubes_66 ?_
            refine J_iload dX0_turnedInCubes_69 rfl ?_
            refine J_ti (k := 2) rfl rfl dX0_turnedInCubes_71 (by exact vp_in_g (by assumption) (by assumption) (by decide)) rfl ?_
            refine J_goto (tgt := 76) dX0_turnedInCubes_72 (by decide) ?_
            refine J_istore dX0_turnedInCubes_76 rfl (by decide) ?_
            refine J_iload_n dX0_turnedInCubes_78 rfl ?_
            refine J_iload dX0_turnedInCubes_79 rfl ?_
            refine J_icmp_ne (tgt := 89) dX0_turnedInCubes_81 (by decide) (fun c81 => ?_) (fun c81 => ?_)
            · refine J_iload dX0_turnedInCubes_89 rfl ?_
              refine J_iconst (v := 3) dX0_turnedInCubes_91 (by decide) ?_
              refine J_iadd dX0_turnedInCubes_92 ?_
              exact J_ret (r := some (.int _)) dX0_turnedInCubes_93 ⟨rfl, _, rfl, rfl⟩ (⟨⟨_, rfl, (j_rng _).1, (j_rng _).2, (by have hbx0 : x0.toInt < 48 := hp1; have hbx1 : x1.toInt < 6 := hp3; obtain ⟨nx0, hnx0, rfl⟩ := jnat hp0 hbx0 (by decide); obtain ⟨nx1, hnx1, rfl⟩ := jnat hp2 hbx1 (by decide); clear hbx0 hbx1; clear hp0 hp1 hp2 hp3; have hcs := (jband (decide_eq_true c2) (jband (decide_eq_true c15) (jband (decide_eq_true c33) (jband (decide_eq_true c54) (jband (decide_eq_true c63) (decide_eq_true c81)))))); clear c2 c15 c33 c54 c63 c81; apply of_decide_eq_true; revert hcs; revert nx1; revert nx0; decide +kernel)⟩, rfl⟩)
            · refine J_iload dX0_turnedInCubes_84 rfl ?_
              refine J_goto (tgt := 93) dX0_turnedInCubes_86 (by decide) ?_
              exact J_ret (r := some (.int _)) dX0_turnedInCubes_93 ⟨rfl, _, rfl, rfl⟩ (⟨⟨_, rfl, (j_rng _).1, (j_rng _).2, (by have hbx0 : x0.toInt < 48 := hp1; have hbx1 : x1.toInt < 6 := hp3; obtain ⟨nx0, hnx0, rfl⟩ := jnat hp0 hbx0 (by decide); obtain ⟨nx1, hnx1, rfl⟩ := jnat hp2 hbx1 (by decide); clear hbx0 hbx1; clear hp0 hp1 hp2 hp3; have hcs := (jband (decide_eq_true c2) (jband (decide_eq_true c15) (jband (decide_eq_true c33) (jband (decide_eq_true c54) (jband (decide_eq_true c63) (decide_eq_true c81)))))); clear c2 c15 c33 c54 c63 c81; apply of_decide_eq_true; revert hcs; revert nx1; revert nx0; decide +kernel)⟩, rfl⟩)
      · refine J_iconst (v := 1) dX0_turnedInCubes_36 (by decide) ?_
        refine J_goto (tgt := 41) dX0_turnedInCubes_37 (by decide) ?_
        refine J_istore dX0_turnedInCubes_41 rfl (by decide) ?_
        refine J_iconst (v := 3) dX0_turnedInCubes_43 (by decide) ?_
        refine J_iload_n dX0_turnedInCubes_44 rfl ?_
        refine J_iconst (v := 3) dX0_turnedInCubes_45 (by decide) ?_
        refine J_ishr dX0_turnedInCubes_46 ?_
        refine J_imul dX0_turnedInCubes_47 ?_
        refine J_iload_n dX0_turnedInCubes_48 rfl ?_
        refine J_iadd dX0_turnedInCubes_49 ?_
        refine J_istore dX0_turnedInCubes_50 rfl (by decide) ?_
        refine J_iload dX0_turnedInCubes_52 rfl ?_
        refine J_if_lt (tgt := 75) dX0_turnedInCubes_54 (by decide) (fun c54 => ?_) (fun c54 => ?_)
        · refine J_iload_n dX0_turnedInCubes_75 rfl ?_
          refine J_istore dX0_turnedInCubes_76 rfl (by decide) ?_
          refine J_iload_n dX0_turnedInCubes_78 rfl ?_
          refine J_iload dX0_turnedInCubes_79 rfl ?_
          refine J_icmp_ne (tgt := 89) dX0_turnedInCubes_81 (by decide) (fun c81 => ?_) (fun c81 => ?_)
          · refine J_iload dX0_turnedInCubes_89 rfl ?_
            refine J_iconst (v := 3) dX0_turnedInCubes_91 (by decide) ?_
            refine J_iadd dX0_turnedInCubes_92 ?_
            exact J_ret (r := some (.int _)) dX0_turnedInCubes_93 ⟨rfl, _, rfl, rfl⟩ (⟨⟨_, rfl, (j_rng _).1, (j_rng _).2, (by have hbx0 : x0.toInt < 48 := hp1; have hbx1 : x1.toInt < 6 := hp3; obtain ⟨nx0, hnx0, rfl⟩ := jnat hp0 hbx0 (by decide); obtain ⟨nx1, hnx1, rfl⟩ := jnat hp2 hbx1 (by decide); clear hbx0 hbx1; clear hp0 hp1 hp2 hp3; have hcs := (jband (decide_eq_true c2) (jband (decide_eq_true c15) (jband (decide_eq_true c33) (jband (decide_eq_true c54) (decide_eq_true c81))))); clear c2 c15 c33 c54 c81; apply of_decide_eq_true; revert hcs; revert nx1; revert nx0; decide +kernel)⟩, rfl⟩)
          · refine J_iload dX0_turnedInCubes_84 rfl ?_
            refine J_goto (tgt := 93) dX0_turnedInCubes_86 (by decide) ?_
            exact J_ret (r := some (.int _)) dX0_turnedInCubes_93 ⟨rfl, _, rfl, rfl⟩ (⟨⟨_, rfl, (j_rng _).1, (j_rng _).2, (by have hbx0 : x0.toInt < 48 := hp1; have hbx1 : x1.toInt < 6 := hp3; obtain ⟨nx0, hnx0, rfl⟩ := jnat hp0 hbx0 (by decide); obtain ⟨nx1, hnx1, rfl⟩ := jnat hp2 hbx1 (by decide); clear hbx0 hbx1; clear hp0 hp1 hp2 hp3; have hcs := (jband (decide_eq_true c2) (jband (decide_eq_true c15) (jband (decide_eq_true c33) (jband (decide_eq_true c54) (decide_eq_true c81))))); clear c2 c15 c33 c54 c81; apply of_decide_eq_true; revert hcs; revert nx1; revert nx0; decide +kernel)⟩, rfl⟩)
        · refine J_iload dX0_turnedInCubes_57 rfl ?_
          refine J_gets (k := 2) rfl jw_fl_X0_33 dX0_turnedInCubes_59 ?_
          refine J_tlen (k := 2) rfl dX0_turnedInCubes_62 rfl ?_
          refine J_icmp_ge (tgt := 75) dX0_turnedInCubes_63 (by decide) (fun c63 => ?_) (fun c63 => ?_)
          · refine J_iload_n dX0_turnedInCubes_75 rfl ?_
            refine J_istore dX0_turnedInCubes_76 rfl (by decide) ?_
            refine J_iload_n dX0_turnedInCubes_78 rfl ?_
            refine J_iload dX0_turnedInCubes_79 rfl ?_
            refine J_icmp_ne (tgt := 89) dX0_turnedInCubes_81 (by decide) (fun c81 => ?_) (fun c81 => ?_)
            · refine J_iload dX0_turnedInCubes_89 rfl ?_
              refine J_iconst (v := 3) dX0_turnedInCubes_91 (by decide) ?_
              refine J_iadd dX0_turnedInCubes_92 ?_
              exact J_ret (r := some (.int _)) dX0_turnedInCubes_93 ⟨rfl, _, rfl, rfl⟩ (⟨⟨_, rfl, (j_rng _).1, (j_rng _).2, (by have hbx0 : x0.toInt < 48 := hp1; have hbx1 : x1.toInt < 6 := hp3; obtain ⟨nx0, hnx0, rfl⟩ := jnat hp0 hbx0 (by decide); obtain ⟨nx1, hnx1, rfl⟩ := jnat hp2 hbx1 (by decide); clear hbx0 hbx1; clear hp0 hp1 hp2 hp3; have hcs := (jband (decide_eq_true c2) (jband (decide_eq_true c15) (jband (decide_eq_true c33) (jband (decide_eq_true c54) (jband (decide_eq_true c63) (decide_eq_true c81)))))); clear c2 c15 c33 c54 c63 c81; apply of_decide_eq_true; revert hcs; revert nx1; revert nx0; decide +kernel)⟩, rfl⟩)
            · refine J_iload dX0_turnedInCubes_84 rfl ?_
              refine J_goto (tgt := 93) dX0_turnedInCubes_86 (by decide) ?_
              exact J_ret (r := some (.int _)) dX0_turnedInCubes_93 ⟨rfl, _, rfl, rfl⟩ (⟨⟨_, rfl, (j_rng _).1, (j_rng _).2, (by have hbx0 : x0.toInt < 48 := hp1; have hbx1 : x1.toInt < 6 := hp3; obtain ⟨nx0, hnx0, rfl⟩ := jnat hp0 hbx0 (by decide); obtain ⟨nx1, hnx1, rfl⟩ := jnat hp2 hbx1 (by decide); clear hbx0 hbx1; clear hp0 hp1 hp2 hp3; have hcs := (jband (decide_eq_true c2) (jband (decide_eq_true c15) (jband (decide_eq_true c33) (jband (decide_eq_true c54) (jband (decide_eq_true c63) (decide_eq_true c81)))))); clear c2 c15 c33 c54 c63 c81; apply of_decide_eq_true; revert hcs; revert nx1; revert nx0; decide +kernel)⟩, rfl⟩)
          · refine J_gets (k := 2) rfl jw_fl_X0_33 dX0_turnedInCubes_66 ?_
            refine J_iload dX0_turnedInCubes_69 rfl ?_
            refine J_ti (k := 2) rfl rfl dX0_turnedInCubes_71 (by exact vp_in_g (by assumption) (by assumption) (by decide)) rfl ?_
            refine J_goto (tgt := 76) dX0_turnedInCubes_72 (by decide) ?_
            refine J_istore dX0_turnedInCubes_76 rfl (by decide) ?_
            refine J_iload_n dX0_turnedInCubes_78 rfl ?_
            refine J_iload dX0_turnedInCubes_79 rfl ?_
            refine J_icmp_ne (tgt := 89) dX0_turnedInCubes_81 (by decide) (fun c81 => ?_) (fun c81 => ?_)
            · refine J_iload dX0_turnedInCubes_89 rfl ?_
              refine J_iconst (v := 3) dX0_turnedInCubes_91 (by decide) ?_
              refine J_iadd dX0_turnedInCubes_92 ?_
              exact J_ret (r := some (.int _)) dX0_turnedInCubes_93 ⟨rfl, _, rfl, rfl⟩ (⟨⟨_, rfl, (j_rng _).1, (j_rng _).2, (by have hbx0 : x0.toInt < 48 := hp1; have hbx1 : x1.toInt < 6 := hp3; obtain ⟨nx0, hnx0, rfl⟩ := jnat hp0 hbx0 (by decide); obtain ⟨nx1, hnx1, rfl⟩ := jnat hp2 hbx1 (by decide); clear hbx0 hbx1; clear hp0 hp1 hp2 hp3; have hcs := (jband (decide_eq_true c2) (jband (decide_eq_true c15) (jband (decide_eq_true c33) (jband (decide_eq_true c54) (jband (decide_eq_true c63) (decide_eq_true c81)))))); clear c2 c15 c33 c54 c63 c81; apply of_decide_eq_true; revert hcs; revert nx1; revert nx0; decide +kernel)⟩, rfl⟩)
            · refine J_iload dX0_turnedInCubes_84 rfl ?_
              refine J_goto (tgt := 93) dX0_turnedInCubes_86 (by decide) ?_
              exact J_ret (r := some (.int _)) dX0_turnedInCubes_93 ⟨rfl, _, rfl, rfl⟩ (⟨⟨_, rfl, (j_rng _).1, (j_rng _).2, (by have hbx0 : x0.toInt < 48 := hp1; have hbx1 : x1.toInt < 6 := hp3; obtain ⟨nx0, hnx0, rfl⟩ := jnat hp0 hbx0 (by decide); obtain ⟨nx1, hnx1, rfl⟩ := jnat hp2 hbx1 (by decide); clear hbx0 hbx1; clear hp0 hp1 hp2 hp3; have hcs := (jband (decide_eq_true c2) (jband (decide_eq_true c15) (jband (decide_eq_true c33) (jband (decide_eq_true c54) (jband (decide_eq_true c63) (decide_eq_true c81)))))); clear c2 c15 c33 c54 c63 c81; apply of_decide_eq_true; revert hcs; revert nx1; revert nx0; decide +kernel)⟩, rfl⟩)
  · refine J_iload_n dX0_turnedInCubes_5 rfl ?_
    refine J_goto (tgt := 12) dX0_turnedInCubes_6 (by decide) ?_
    refine J_istore_n dX0_turnedInCubes_12 rfl (by decide) ?_
    refine J_iload_n dX0_turnedInCubes_13 rfl ?_
    refine J_iconst (v := 3) dX0_turnedInCubes_14 (by decide) ?_
    refine J_icmp_lt (tgt := 22) dX0_turnedInCubes_15 (by decide) (fun c15 => ?_) (fun c15 => ?_)
    · refine J_iconst (v := 0) dX0_turnedInCubes_22 (by decide) ?_
      refine J_istore_n dX0_turnedInCubes_23 rfl (by decide) ?_
      refine J_iload_n dX0_turnedInCubes_24 rfl ?_
      refine J_bipush (v := 7) dX0_turnedInCubes_25 (by decide) ?_
      refine J_iand dX0_turnedInCubes_27 ?_
      refine J_iload_n dX0_turnedInCubes_28 rfl ?_
      refine J_ishr dX0_turnedInCubes_29 ?_
      refine J_iconst (v := 1) dX0_turnedInCubes_30 (by decide) ?_
      refine J_iand dX0_turnedInCubes_31 ?_
      refine J_iconst (v := 1) dX0_turnedInCubes_32 (by decide) ?_
      refine J_icmp_ne (tgt := 40) dX0_turnedInCubes_33 (by decide) (fun c33 => ?_) (fun c33 => ?_)
      · refine J_iconst (v := 0) dX0_turnedInCubes_40 (by decide) ?_
        refine J_istore dX0_turnedInCubes_41 rfl (by decide) ?_
        refine J_iconst (v := 3) dX0_turnedInCubes_43 (by decide) ?_
        refine J_iload_n dX0_turnedInCubes_44 rfl ?_
        refine J_iconst (v := 3) dX0_turnedInCubes_45 (by decide) ?_
        refine J_ishr dX0_turnedInCubes_46 ?_
        refine J_imul dX0_turnedInCubes_47 ?_
        refine J_iload_n dX0_turnedInCubes_48 rfl ?_
        refine J_iadd dX0_turnedInCubes_49 ?_
        refine J_istore dX0_turnedInCubes_50 rfl (by decide) ?_
        refine J_iload dX0_turnedInCubes_52 rfl ?_
        refine J_if_lt (tgt := 75) dX0_turnedInCubes_54 (by decide) (fun c54 => ?_) (fun c54 => ?_)
        · refine J_iload_n dX0_turnedInCubes_75 rfl ?_
          refine J_istore dX0_turnedInCubes_76 rfl (by decide) ?_
          refine J_iload_n dX0_turnedInCubes_78 rfl ?_
          refine J_iload dX0_turnedInCubes_79 rfl ?_
          refine J_icmp_ne (tgt := 89) dX0_turnedInCubes_81 (by decide) (fun c81 => ?_) (fun c81 => ?_)
          · refine J_iload dX0_turnedInCubes_89 rfl ?_
            refine J_iconst (v := 3) dX0_turnedInCubes_91 (by decide) ?_
            refine J_iadd dX0_turnedInCubes_92 ?_
            exact J_ret (r := some (.int _)) dX0_turnedInCubes_93 ⟨rfl, _, rfl, rfl⟩ (⟨⟨_, rfl, (j_rng _).1, (j_rng _).2, (by have hbx0 : x0.toInt < 48 := hp1; have hbx1 : x1.toInt < 6 := hp3; obtain ⟨nx0, hnx0, rfl⟩ := jnat hp0 hbx0 (by decide); obtain ⟨nx1, hnx1, rfl⟩ := jnat hp2 hbx1 (by decide); clear hbx0 hbx1; clear hp0 hp1 hp2 hp3; have hcs := (jband (decide_eq_true c2) (jband (decide_eq_true c15) (jband (decide_eq_true c33) (jband (decide_eq_true c54) (decide_eq_true c81))))); clear c2 c15 c33 c54 c81; apply of_decide_eq_true; revert hcs; revert nx1; revert nx0; decide +kernel)⟩, rfl⟩)
          · refine J_iload dX0_turnedInCubes_84 rfl ?_
            refine J_goto (tgt := 93) dX0_turnedInCubes_86 (by decide) ?_
            exact J_ret (r := some (.int _)) dX0_turnedInCubes_93 ⟨rfl, _, rfl, rfl⟩ (⟨⟨_, rfl, (j_rng _).1, (j_rng _).2, (by have hbx0 : x0.toInt < 48 := hp1; have hbx1 : x1.toInt < 6 := hp3; obtain ⟨nx0, hnx0, rfl⟩ := jnat hp0 hbx0 (by decide); obtain ⟨nx1, hnx1, rfl⟩ := jnat hp2 hbx1 (by decide); clear hbx0 hbx1; clear hp0 hp1 hp2 hp3; have hcs := (jband (decide_eq_true c2) (jband (decide_eq_true c15) (jband (decide_eq_true c33) (jband (decide_eq_true c54) (decide_eq_true c81))))); clear c2 c15 c33 c54 c81; apply of_decide_eq_true; revert hcs; revert nx1; revert nx0; decide +kernel)⟩, rfl⟩)
        · refine J_iload dX0_turnedInCubes_57 rfl ?_
          refine J_gets (k := 2) rfl jw_fl_X0_33 dX0_turnedInCubes_59 ?_
          refine J_tlen (k := 2) rfl dX0_turnedInCubes_62 rfl ?_
          refine J_icmp_ge (tgt := 75) dX0_turnedInCubes_63 (by decide) (fun c63 => ?_) (fun c63 => ?_)
          · refine J_iload_n dX0_turnedInCubes_75 rfl ?_
            refine J_istore dX0_turnedInCubes_76 rfl (by decide) ?_
            refine J_iload_n dX0_turnedInCubes_78 rfl ?_
            refine J_iload dX0_turnedInCubes_79 rfl ?_
            refine J_icmp_ne (tgt := 89) dX0_turnedInCubes_81 (by decide) (fun c81 => ?_) (fun c81 => ?_)
            · refine J_iload dX0_turnedInCubes_89 rfl ?_
              refine J_iconst (v := 3) dX0_turnedInCubes_91 (by decide) ?_
              refine J_iadd dX0_turnedInCubes_92 ?_
              exact J_ret (r := some (.int _)) dX0_turnedInCubes_93 ⟨rfl, _, rfl, rfl⟩ (⟨⟨_, rfl, (j_rng _).1, (j_rng _).2, (by have hbx0 : x0.toInt < 48 := hp1; have hbx1 : x1.toInt < 6 := hp3; obtain ⟨nx0, hnx0, rfl⟩ := jnat hp0 hbx0 (by decide); obtain ⟨nx1, hnx1, rfl⟩ := jnat hp2 hbx1 (by decide); clear hbx0 hbx1; clear hp0 hp1 hp2 hp3; have hcs := (jband (decide_eq_true c2) (jband (decide_eq_true c15) (jband (decide_eq_true c33) (jband (decide_eq_true c54) (jband (decide_eq_true c63) (decide_eq_true c81)))))); clear c2 c15 c33 c54 c63 c81; apply of_decide_eq_true; revert hcs; revert nx1; revert nx0; decide +kernel)⟩, rfl⟩)
            · refine J_iload dX0_turnedInCubes_84 rfl ?_
              refine J_goto (tgt := 93) dX0_turnedInCubes_86 (by decide) ?_
              exact J_ret (r := some (.int _)) dX0_turnedInCubes_93 ⟨rfl, _, rfl, rfl⟩ (⟨⟨_, rfl, (j_rng _).1, (j_rng _).2, (by have hbx0 : x0.toInt < 48 := hp1; have hbx1 : x1.toInt < 6 := hp3; obtain ⟨nx0, hnx0, rfl⟩ := jnat hp0 hbx0 (by decide); obtain ⟨nx1, hnx1, rfl⟩ := jnat hp2 hbx1 (by decide); clear hbx0 hbx1; clear hp0 hp1 hp2 hp3; have hcs := (jband (decide_eq_true c2) (jband (decide_eq_true c15) (jband (decide_eq_true c33) (jband (decide_eq_true c54) (jband (decide_eq_true c63) (decide_eq_true c81)))))); clear c2 c15 c33 c54 c63 c81; apply of_decide_eq_true; revert hcs; revert nx1; revert nx0; decide +kernel)⟩, rfl⟩)
          · refine J_gets (k := 2) rfl jw_fl_X0_33 dX0_turnedInCubes_66 ?_
            refine J_iload dX0_turnedInCubes_69 rfl ?_
            refine J_ti (k := 2) rfl rfl dX0_turnedInCubes_71 (by exact vp_in_g (by assumption) (by assumption) (by decide)) rfl ?_
            refine J_goto (tgt := 76) dX0_turnedInCubes_72 (by decide) ?_
            refine J_istore dX0_turnedInCubes_76 rfl (by decide) ?_
            refine J_iload_n dX0_turnedInCubes_78 rfl ?_
            refine J_iload dX0_turnedInCubes_79 rfl ?_
            refine J_icmp_ne (tgt := 89) dX0_turnedInCubes_81 (by decide) (fun c81 => ?_) (fun c81 => ?_)
            · refine J_iload dX0_turnedInCubes_89 rfl ?_
              refine J_iconst (v := 3) dX0_turnedInCubes_91 (by decide) ?_
              refine J_iadd dX0_turnedInCubes_92 ?_
              exact J_ret (r := some (.int _)) dX0_turnedInCubes_93 ⟨rfl, _, rfl, rfl⟩ (⟨⟨_, rfl, (j_rng _).1, (j_rng _).2, (by have hbx0 : x0.toInt < 48 := hp1; have hbx1 : x1.toInt < 6 := hp3; obtain ⟨nx0, hnx0, rfl⟩ := jnat hp0 hbx0 (by decide); obtain ⟨nx1, hnx1, rfl⟩ := jnat hp2 hbx1 (by decide); clear hbx0 hbx1; clear hp0 hp1 hp2 hp3; have hcs := (jband (decide_eq_true c2) (jband (decide_eq_true c15) (jband (decide_eq_true c33) (jband (decide_eq_true c54) (jband (decide_eq_true c63) (decide_eq_true c81)))))); clear c2 c15 c33 c54 c63 c81; apply of_decide_eq_true; revert hcs; revert nx1; revert nx0; decide +kernel)⟩, rfl⟩)
            · refine J_iload dX0_turnedInCubes_84 rfl ?_
              refine J_goto (tgt := 93) dX0_turnedInCubes_86 (by decide) ?_
              exact J_ret (r := some (.int _)) dX0_turnedInCubes_93 ⟨rfl, _, rfl, rfl⟩ (⟨⟨_, rfl, (j_rng _).1, (j_rng _).2, (by have hbx0 : x0.toInt < 48 := hp1; have hbx1 : x1.toInt < 6 := hp3; obtain ⟨nx0, hnx0, rfl⟩ := jnat hp0 hbx0 (by decide); obtain ⟨nx1, hnx1, rfl⟩ := jnat hp2 hbx1 (by decide); clear hbx0 hbx1; clear hp0 hp1 hp2 hp3; have hcs := (jband (decide_eq_true c2) (jband (decide_eq_true c15) (jband (decide_eq_true c33) (jband (decide_eq_true c54) (jband (decide_eq_true c63) (decide_eq_true c81)))))); clear c2 c15 c33 c54 c63 c81; apply of_decide_eq_true; revert hcs; revert nx1; revert nx0; decide +kernel)⟩, rfl⟩)
      · refine J_iconst (v := 1) dX0_turnedInCubes_36 (by decide) ?_
        refine J_goto (tgt := 41) dX0_turnedInCubes_37 (by decide) ?_
        refine J_istore dX0_turnedInCubes_41 rfl (by decide) ?_
        refine J_iconst (v := 3) dX0_turnedInCubes_43 (by decide) ?_
        refine J_iload_n dX0_turnedInCubes_44 rfl ?_
        refine J_iconst (v := 3) dX0_turnedInCubes_45 (by decide) ?_
        refine J_ishr dX0_turnedInCubes_46 ?_
        refine J_imul dX0_turnedInCubes_47 ?_
        refine J_iload_n dX0_turnedInCubes_48 rfl ?_
        refine J_iadd dX0_turnedInCubes_49 ?_
        refine J_istore dX0_turnedInCubes_50 rfl (by decide) ?_
        refine J_iload dX0_turnedInCubes_52 rfl ?_
        refine J_if_lt (tgt := 75) dX0_turnedInCubes_54 (by decide) (fun c54 => ?_) (fun c54 => ?_)
        · refine J_iload_n dX0_turnedInCubes_75 rfl ?_
          refine J_istore dX0_turnedInCubes_76 rfl (by decide) ?_
          refine J_iload_n dX0_turnedInCubes_78 rfl ?_
          refine J_iload dX0_turnedInCubes_79 rfl ?_
          refine J_icmp_ne (tgt := 89) dX0_turnedInCubes_81 (by decide) (fun c81 => ?_) (fun c81 => ?_)
          · refine J_iload dX0_turnedInCubes_89 rfl ?_
            refine J_iconst (v := 3) dX0_turnedInCubes_91 (by decide) ?_
            refine J_iadd dX0_turnedInCubes_92 ?_
            exact J_ret (r := some (.int _)) dX0_turnedInCubes_93 ⟨rfl, _, rfl, rfl⟩ (⟨⟨_, rfl, (j_rng _).1, (j_rng _).2, (by have hbx0 : x0.toInt < 48 := hp1; have hbx1 : x1.toInt < 6 := hp3; obtain ⟨nx0, hnx0, rfl⟩ := jnat hp0 hbx0 (by decide); obtain ⟨nx1, hnx1, rfl⟩ := jnat hp2 hbx1 (by decide); clear hbx0 hbx1; clear hp0 hp1 hp2 hp3; have hcs := (jband (decide_eq_true c2) (jband (decide_eq_true c15) (jband (decide_eq_true c33) (jband (decide_eq_true c54) (decide_eq_true c81))))); clear c2 c15 c33 c54 c81; apply of_decide_eq_true; revert hcs; revert nx1; revert nx0; decide +kernel)⟩, rfl⟩)
          · refine J_iload dX0_turnedInCubes_84 rfl ?_
            refine J_goto (tgt := 93) dX0_turnedInCubes_86 (by decide) ?_
            exact J_ret (r := some (.int _)) dX0_turnedInCubes_93 ⟨rfl, _, rfl, rfl⟩ (⟨⟨_, rfl, (j_rng _).1, (j_rng _).2, (by have hbx0 : x0.toInt < 48 := hp1; have hbx1 : x1.toInt < 6 := hp3; obtain ⟨nx0, hnx0, rfl⟩ := jnat hp0 hbx0 (by decide); obtain ⟨nx1, hnx1, rfl⟩ := jnat hp2 hbx1 (by decide); clear hbx0 hbx1; clear hp0 hp1 hp2 hp3; have hcs := (jband (decide_eq_true c2) (jband (decide_eq_true c15) (jband (decide_eq_true c33) (jband (decide_eq_true c54) (decide_eq_true c81))))); clear c2 c15 c33 c54 c81; apply of_decide_eq_true; revert hcs; revert nx1; revert nx0; decide +kernel)⟩, rfl⟩)
        · refine J_iload dX0_turnedInCubes_57 rfl ?_
          refine J_gets (k := 2) rfl jw_fl_X0_33 dX0_turnedInCubes_59 ?_
          refine J_tlen (k := 2) rfl dX0_turnedInCubes_62 rfl ?_
          refine J_icmp_ge (tgt := 75) dX0_turnedInCubes_63 (by decide) (fun c63 => ?_) (fun c63 => ?_)
          · refine J_iload_n dX0_turnedInCubes_75 rfl ?_
            refine J_istore dX0_turnedInCubes_76 rfl (by decide) ?_
            refine J_iload_n dX0_turnedInCubes_78 rfl ?_
            refine J_iload dX0_turnedInCubes_79 rfl ?_
            refine J_icmp_ne (tgt := 89) dX0_turnedInCubes_81 (by decide) (fun c81 => ?_) (fun c81 => ?_)
            · refine J_iload dX0_turnedInCubes_89 rfl ?_
              refine J_iconst (v := 3) dX0_turnedInCubes_91 (by decide) ?_
              refine J_iadd dX0_turnedInCubes_92 ?_
              exact J_ret (r := some (.int _)) dX0_turnedInCubes_93 ⟨rfl, _, rfl, rfl⟩ (⟨⟨_, rfl, (j_rng _).1, (j_rng _).2, (by have hbx0 : x0.toInt < 48 := hp1; have hbx1 : x1.toInt < 6 := hp3; obtain ⟨nx0, hnx0, rfl⟩ := jnat hp0 hbx0 (by decide); obtain ⟨nx1, hnx1, rfl⟩ := jnat hp2 hbx1 (by decide); clear hbx0 hbx1; clear hp0 hp1 hp2 hp3; have hcs := (jband (decide_eq_true c2) (jband (decide_eq_true c15) (jband (decide_eq_true c33) (jband (decide_eq_true c54) (jband (decide_eq_true c63) (decide_eq_true c81)))))); clear c2 c15 c33 c54 c63 c81; apply of_decide_eq_true; revert hcs; revert nx1; revert nx0; decide +kernel)⟩, rfl⟩)
            · refine J_iload dX0_turnedInCubes_84 rfl ?_
              refine J_goto (tgt := 93) dX0_turnedInCubes_86 (by decide) ?_
              exact J_ret (r := some (.int _)) dX0_turnedInCubes_93 ⟨rfl, _, rfl, rfl⟩ (⟨⟨_, rfl, (j_rng _).1, (j_rng _).2, (by have hbx0 : x0.toInt < 48 := hp1; have hbx1 : x1.toInt < 6 := hp3; obtain ⟨nx0, hnx0, rfl⟩ := jnat hp0 hbx0 (by decide); obtain ⟨nx1, hnx1, rfl⟩ := jnat hp2 hbx1 (by decide); clear hbx0 hbx1; clear hp0 hp1 hp2 hp3; have hcs := (jband (decide_eq_true c2) (jband (decide_eq_true c15) (jband (decide_eq_true c33) (jband (decide_eq_true c54) (jband (decide_eq_true c63) (decide_eq_true c81)))))); clear c2 c15 c33 c54 c63 c81; apply of_decide_eq_true; revert hcs; revert nx1; revert nx0; decide +kernel)⟩, rfl⟩)
          · refine J_gets (k := 2) rfl jw_fl_X0_33 dX0_turnedInCubes_66 ?_
            refine J_iload dX0_turnedInCubes_69 rfl ?_
            refine J_ti (k := 2) rfl rfl dX0_turnedInCubes_71 (by exact vp_in_g (by assumption) (by assumption) (by decide)) rfl ?_
            refine J_goto (tgt := 76) dX0_turnedInCubes_72 (by decide) ?_
            refine J_istore dX0_turnedInCubes_76 rfl (by decide) ?_
            refine J_iload_n dX0_turnedInCubes_78 rfl ?_
            refine J_iload dX0_turnedInCubes_79 rfl ?_
            refine J_icmp_ne (tgt := 89) dX0_turnedInCubes_81 (by decide) (fun c81 => ?_) (fun c81 => ?_)
            · refine J_iload dX0_turnedInCubes_89 rfl ?_
              refine J_iconst (v := 3) dX0_turnedInCubes_91 (by decide) ?_
              refine J_iadd dX0_turnedInCubes_92 ?_
              exact J_ret (r := some (.int _)) dX0_turnedInCubes_93 ⟨rfl, _, rfl, rfl⟩ (⟨⟨_, rfl, (j_rng _).1, (j_rng _).2, (by have hbx0 : x0.toInt < 48 := hp1; have hbx1 : x1.toInt < 6 := hp3; obtain ⟨nx0, hnx0, rfl⟩ := jnat hp0 hbx0 (by decide); obtain ⟨nx1, hnx1, rfl⟩ := jnat hp2 hbx1 (by decide); clear hbx0 hbx1; clear hp0 hp1 hp2 hp3; have hcs := (jband (decide_eq_true c2) (jband (decide_eq_true c15) (jband (decide_eq_true c33) (jband (decide_eq_true c54) (jband (decide_eq_true c63) (decide_eq_true c81)))))); clear c2 c15 c33 c54 c63 c81; apply of_decide_eq_true; revert hcs; revert nx1; revert nx0; decide +kernel)⟩, rfl⟩)
            · refine J_iload dX0_turnedInCubes_84 rfl ?_
              refine J_goto (tgt := 93) dX0_turnedInCubes_86 (by decide) ?_
              exact J_ret (r := some (.int _)) dX0_turnedInCubes_93 ⟨rfl, _, rfl, rfl⟩ (⟨⟨_, rfl, (j_rng _).1, (j_rng _).2, (by have hbx0 : x0.toInt < 48 := hp1; have hbx1 : x1.toInt < 6 := hp3; obtain ⟨nx0, hnx0, rfl⟩ := jnat hp0 hbx0 (by decide); obtain ⟨nx1, hnx1, rfl⟩ := jnat hp2 hbx1 (by decide); clear hbx0 hbx1; clear hp0 hp1 hp2 hp3; have hcs := (jband (decide_eq_true c2) (jband (decide_eq_true c15) (jband (decide_eq_true c33) (jband (decide_eq_true c54) (jband (decide_eq_true c63) (decide_eq_true c81)))))); clear c2 c15 c33 c54 c63 c81; apply of_decide_eq_true; revert hcs; revert nx1; revert nx0; decide +kernel)⟩, rfl⟩)
    · refine J_iconst (v := 1) dX0_turnedInCubes_18 (by decide) ?_
      refine J_goto (tgt := 23) dX0_turnedInCubes_19 (by decide) ?_
      refine J_istore_n dX0_turnedInCubes_23 rfl (by decide) ?_
      refine J_iload_n dX0_turnedInCubes_24 rfl ?_
      refine J_bipush (v := 7) dX0_turnedInCubes_25 (by decide) ?_
      refine J_iand dX0_turnedInCubes_27 ?_
      refine J_iload_n dX0_turnedInCubes_28 rfl ?_
      refine J_ishr dX0_turnedInCubes_29 ?_
      refine J_iconst (v := 1) dX0_turnedInCubes_30 (by decide) ?_
      refine J_iand dX0_turnedInCubes_31 ?_
      refine J_iconst (v := 1) dX0_turnedInCubes_32 (by decide) ?_
      refine J_icmp_ne (tgt := 40) dX0_turnedInCubes_33 (by decide) (fun c33 => ?_) (fun c33 => ?_)
      · refine J_iconst (v := 0) dX0_turnedInCubes_40 (by decide) ?_
        refine J_istore dX0_turnedInCubes_41 rfl (by decide) ?_
        refine J_iconst (v := 3) dX0_turnedInCubes_43 (by decide) ?_
        refine J_iload_n dX0_turnedInCubes_44 rfl ?_
        refine J_iconst (v := 3) dX0_turnedInCubes_45 (by decide) ?_
        refine J_ishr dX0_turnedInCubes_46 ?_
        refine J_imul dX0_turnedInCubes_47 ?_
        refine J_iload_n dX0_turnedInCubes_48 rfl ?_
        refine J_iadd dX0_turnedInCubes_49 ?_
        refine J_istore dX0_turnedInCubes_50 rfl (by decide) ?_
        refine J_iload dX0_turnedInCubes_52 rfl ?_
        refine J_if_lt (tgt := 75) dX0_turnedInCubes_54 (by decide) (fun c54 => ?_) (fun c54 => ?_)
        · refine J_iload_n dX0_turnedInCubes_75 rfl ?_
          refine J_istore dX0_turnedInCubes_76 rfl (by decide) ?_
          refine J_iload_n dX0_turnedInCubes_78 rfl ?_
          refine J_iload dX0_turnedInCubes_79 rfl ?_
          refine J_icmp_ne (tgt := 89) dX0_turnedInCubes_81 (by decide) (fun c81 => ?_) (fun c81 => ?_)
          · refine J_iload dX0_turnedInCubes_89 rfl ?_
            refine J_iconst (v := 3) dX0_turnedInCubes_91 (by decide) ?_
            refine J_iadd dX0_turnedInCubes_92 ?_
            exact J_ret (r := some (.int _)) dX0_turnedInCubes_93 ⟨rfl, _, rfl, rfl⟩ (⟨⟨_, rfl, (j_rng _).1, (j_rng _).2, (by have hbx0 : x0.toInt < 48 := hp1; have hbx1 : x1.toInt < 6 := hp3; obtain ⟨nx0, hnx0, rfl⟩ := jnat hp0 hbx0 (by decide); obtain ⟨nx1, hnx1, rfl⟩ := jnat hp2 hbx1 (by decide); clear hbx0 hbx1; clear hp0 hp1 hp2 hp3; have hcs := (jband (decide_eq_true c2) (jband (decide_eq_true c15) (jband (decide_eq_true c33) (jband (decide_eq_true c54) (decide_eq_true c81))))); clear c2 c15 c33 c54 c81; apply of_decide_eq_true; revert hcs; revert nx1; revert nx0; decide +kernel)⟩, rfl⟩)
          · refine J_iload dX0_turnedInCubes_84 rfl ?_
            refine J_goto (tgt := 93) dX0_turnedInCubes_86 (by decide) ?_
            exact J_ret (r := some (.int _)) dX0_turnedInCubes_93 ⟨rfl, _, rfl, rfl⟩ (⟨⟨_, rfl, (j_rng _).1, (j_rng _).2, (by have hbx0 : x0.toInt < 48 := hp1; have hbx1 : x1.toInt < 6 := hp3; obtain ⟨nx0, hnx0, rfl⟩ := jnat hp0 hbx0 (by decide); obtain ⟨nx1, hnx1, rfl⟩ := jnat hp2 hbx1 (by decide); clear hbx0 hbx1; clear hp0 hp1 hp2 hp3; have hcs := (jband (decide_eq_true c2) (jband (decide_eq_true c15) (jband (decide_eq_true c33) (jband (decide_eq_true c54) (decide_eq_true c81))))); clear c2 c15 c33 c54 c81; apply of_decide_eq_true; revert hcs; revert nx1; revert nx0; decide +kernel)⟩, rfl⟩)
        · refine J_iload dX0_turnedInCubes_57 rfl ?_
          refine J_gets (k := 2) rfl jw_fl_X0_33 dX0_turnedInCubes_59 ?_
          refine J_tlen (k := 2) rfl dX0_turnedInCubes_62 rfl ?_
          refine J_icmp_ge (tgt := 75) dX0_turnedInCubes_63 (by decide) (fun c63 => ?_) (fun c63 => ?_)
          · refine J_iload_n dX0_turnedInCubes_75 rfl ?_
            refine J_istore dX0_turnedInCubes_76 rfl (by decide) ?_
            refine J_iload_n dX0_turnedInCubes_78 rfl ?_
            refine J_iload dX0_turnedInCubes_79 rfl ?_
            refine J_icmp_ne (tgt := 89) dX0_turnedInCubes_81 (by decide) (fun c81 => ?_) (fun c81 => ?_)
            · refine J_iload dX0_turnedInCubes_89 rfl ?_
              refine J_iconst (v := 3) dX0_turnedInCubes_91 (by decide) ?_
              refine J_iadd dX0_turnedInCubes_92 ?_
              exact J_ret (r := some (.int _)) dX0_turnedInCubes_93 ⟨rfl, _, rfl, rfl⟩ (⟨⟨_, rfl, (j_rng _).1, (j_rng _).2, (by have hbx0 : x0.toInt < 48 := hp1; have hbx1 : x1.toInt < 6 := hp3; obtain ⟨nx0, hnx0, rfl⟩ := jnat hp0 hbx0 (by decide); obtain ⟨nx1, hnx1, rfl⟩ := jnat hp2 hbx1 (by decide); clear hbx0 hbx1; clear hp0 hp1 hp2 hp3; have hcs := (jband (decide_eq_true c2) (jband (decide_eq_true c15) (jband (decide_eq_true c33) (jband (decide_eq_true c54) (jband (decide_eq_true c63) (decide_eq_true c81)))))); clear c2 c15 c33 c54 c63 c81; apply of_decide_eq_true; revert hcs; revert nx1; revert nx0; decide +kernel)⟩, rfl⟩)
            · refine J_iload dX0_turnedInCubes_84 rfl ?_
              refine J_goto (tgt := 93) dX0_turnedInCubes_86 (by decide) ?_
              exact J_ret (r := some (.int _)) dX0_turnedInCubes_93 ⟨rfl, _, rfl, rfl⟩ (⟨⟨_, rfl, (j_rng _).1, (j_rng _).2, (by have hbx0 : x0.toInt < 48 := hp1; have hbx1 : x1.toInt < 6 := hp3; obtain ⟨nx0, hnx0, rfl⟩ := jnat hp0 hbx0 (by decide); obtain ⟨nx1, hnx1, rfl⟩ := jnat hp2 hbx1 (by decide); clear hbx0 hbx1; clear hp0 hp1 hp2 hp3; have hcs := (jband (decide_eq_true c2) (jband (decide_eq_true c15) (jband (decide_eq_true c33) (jband (decide_eq_true c54) (jband (decide_eq_true c63) (decide_eq_true c81)))))); clear c2 c15 c33 c54 c63 c81; apply of_decide_eq_true; revert hcs; revert nx1; revert nx0; decide +kernel)⟩, rfl⟩)
          · refine J_gets (k := 2) rfl jw_fl_X0_33 dX0_turnedInCubes_66 ?_
            refine J_iload dX0_turnedInCubes_69 rfl ?_
            refine J_ti (k := 2) rfl rfl dX0_turnedInCubes_71 (by exact vp_in_g (by assumption) (by assumption) (by decide)) rfl ?_
            refine J_goto (tgt := 76) dX0_turnedInCubes_72 (by decide) ?_
            refine J_istore dX0_turnedInCubes_76 rfl (by decide) ?_
            refine J_iload_n dX0_turnedInCubes_78 rfl ?_
            refine J_iload dX0_turnedInCubes_79 rfl ?_
            refine J_icmp_ne (tgt := 89) dX0_turnedInCubes_81 (by decide) (fun c81 => ?_) (fun c81 => ?_)
            · refine J_iload dX0_turnedInCubes_89 rfl ?_
              refine J_iconst (v := 3) dX0_turnedInCubes_91 (by decide) ?_
              refine J_iadd dX0_turnedInCubes_92 ?_
              exact J_ret (r := some (.int _)) dX0_turnedInCubes_93 ⟨rfl, _, rfl, rfl⟩ (⟨⟨_, rfl, (j_rng _).1, (j_rng _).2, (by have hbx0 : x0.toInt < 48 := hp1; have hbx1 : x1.toInt < 6 := hp3; obtain ⟨nx0, hnx0, rfl⟩ := jnat hp0 hbx0 (by decide); obtain ⟨nx1, hnx1, rfl⟩ := jnat hp2 hbx1 (by decide); clear hbx0 hbx1; clear hp0 hp1 hp2 hp3; have hcs := (jband (decide_eq_true c2) (jband (decide_eq_true c15) (jband (decide_eq_true c33) (jband (decide_eq_true c54) (jband (decide_eq_true c63) (decide_eq_true c81)))))); clear c2 c15 c33 c54 c63 c81; apply of_decide_eq_true; revert hcs; revert nx1; revert nx0; decide +kernel)⟩, rfl⟩)
            · refine J_iload dX0_turnedInCubes_84 rfl ?_
              refine J_goto (tgt := 93) dX0_turnedInCubes_86 (by decide) ?_
              exact J_ret (r := some (.int _)) dX0_turnedInCubes_93 ⟨rfl, _, rfl, rfl⟩ (⟨⟨_, rfl, (j_rng _).1, (j_rng _).2, (by have hbx0 : x0.toInt < 48 := hp1; have hbx1 : x1.toInt < 6 := hp3; obtain ⟨nx0, hnx0, rfl⟩ := jnat hp0 hbx0 (by decide); obtain ⟨nx1, hnx1, rfl⟩ := jnat hp2 hbx1 (by decide); clear hbx0 hbx1; clear hp0 hp1 hp2 hp3; have hcs := (jband (decide_eq_true c2) (jband (decide_eq_true c15) (jband (decide_eq_true c33) (jband (decide_eq_true c54) (jband (decide_eq_true c63) (decide_eq_true c81)))))); clear c2 c15 c33 c54 c63 c81; apply of_decide_eq_true; revert hcs; revert nx1; revert nx0; decide +kernel)⟩, rfl⟩)
      · refine J_iconst (v := 1) dX0_turnedInCubes_36 (by decide) ?_
        refine J_goto (tgt := 41) dX0_turnedInCubes_37 (by decide) ?_
        refine J_istore dX0_turnedInCubes_41 rfl (by decide) ?_
        refine J_iconst (v := 3) dX0_turnedInCubes_43 (by decide) ?_
        refine J_iload_n dX0_turnedInCubes_44 rfl ?_
        refine J_iconst (v := 3) dX0_turnedInCubes_45 (by decide) ?_
        refine J_ishr dX0_turnedInCubes_46 ?_
        refine J_imul dX0_turnedInCubes_47 ?_
        refine J_iload_n dX0_turnedInCubes_48 rfl ?_
        refine J_iadd dX0_turnedInCubes_49 ?_
        refine J_istore dX0_turnedInCubes_50 rfl (by decide) ?_
        refine J_iload dX0_turnedInCubes_52 rfl ?_
        refine J_if_lt (tgt := 75) dX0_turnedInCubes_54 (by decide) (fun c54 => ?_) (fun c54 => ?_)
        · refine J_iload_n dX0_turnedInCubes_75 rfl ?_
          refine J_istore dX0_turnedInCubes_76 rfl (by decide) ?_
          refine J_iload_n dX0_turnedInCubes_78 rfl ?_
          refine J_iload dX0_turnedInCubes_79 rfl ?_
          refine J_icmp_ne (tgt := 89) dX0_turnedInCubes_81 (by decide) (fun c81 => ?_) (fun c81 => ?_)
          · refine J_iload dX0_turnedInCubes_89 rfl ?_
            refine J_iconst (v := 3) dX0_turnedInCubes_91 (by decide) ?_
            refine J_iadd dX0_turnedInCubes_92 ?_
            exact J_ret (r := some (.int _)) dX0_turnedInCubes_93 ⟨rfl, _, rfl, rfl⟩ (⟨⟨_, rfl, (j_rng _).1, (j_rng _).2, (by have hbx0 : x0.toInt < 48 := hp1; have hbx1 : x1.toInt < 6 := hp3; obtain ⟨nx0, hnx0, rfl⟩ := jnat hp0 hbx0 (by decide); obtain ⟨nx1, hnx1, rfl⟩ := jnat hp2 hbx1 (by decide); clear hbx0 hbx1; clear hp0 hp1 hp2 hp3; have hcs := (jband (decide_eq_true c2) (jband (decide_eq_true c15) (jband (decide_eq_true c33) (jband (decide_eq_true c54) (decide_eq_true c81))))); clear c2 c15 c33 c54 c81; apply of_decide_eq_true; revert hcs; revert nx1; revert nx0; decide +kernel)⟩, rfl⟩)
          · refine J_iload dX0_turnedInCubes_84 rfl ?_
            refine J_goto (tgt := 93) dX0_turnedInCubes_86 (by decide) ?_
            exact J_ret (r := some (.int _)) dX0_turnedInCubes_93 ⟨rfl, _, rfl, rfl⟩ (⟨⟨_, rfl, (j_rng _).1, (j_rng _).2, (by have hbx0 : x0.toInt < 48 := hp1; have hbx1 : x1.toInt < 6 := hp3; obtain ⟨nx0, hnx0, rfl⟩ := jnat hp0 hbx0 (by decide); obtain ⟨nx1, hnx1, rfl⟩ := jnat hp2 hbx1 (by decide); clear hbx0 hbx1; clear hp0 hp1 hp2 hp3; have hcs := (jband (decide_eq_true c2) (jband (decide_eq_true c15) (jband (decide_eq_true c33) (jband (decide_eq_true c54) (decide_eq_true c81))))); clear c2 c15 c33 c54 c81; apply of_decide_eq_true; revert hcs; revert nx1; revert nx0; decide +kernel)⟩, rfl⟩)
        · refine J_iload dX0_turnedInCubes_57 rfl ?_
          refine J_gets (k := 2) rfl jw_fl_X0_33 dX0_turnedInCubes_59 ?_
          refine J_tlen (k := 2) rfl dX0_turnedInCubes_62 rfl ?_
          refine J_icmp_ge (tgt := 75) dX0_turnedInCubes_63 (by decide) (fun c63 => ?_) (fun c63 => ?_)
          · refine J_iload_n dX0_turnedInCubes_75 rfl ?_
            refine J_istore dX0_turnedInCubes_76 rfl (by decide) ?_
            refine J_iload_n dX0_turnedInCubes_78 rfl ?_
            refine J_iload dX0_turnedInCubes_79 rfl ?_
            refine J_icmp_ne (tgt := 89) dX0_turnedInCubes_81 (by decide) (fun c81 => ?_) (fun c81 => ?_)
            · refine J_iload dX0_turnedInCubes_89 rfl ?_
              refine J_iconst (v := 3) dX0_turnedInCubes_91 (by decide) ?_
              refine J_iadd dX0_turnedInCubes_92 ?_
              exact J_ret (r := some (.int _)) dX0_turnedInCubes_93 ⟨rfl, _, rfl, rfl⟩ (⟨⟨_, rfl, (j_rng _).1, (j_rng _).2, (by have hbx0 : x0.toInt < 48 := hp1; have hbx1 : x1.toInt < 6 := hp3; obtain ⟨nx0, hnx0, rfl⟩ := jnat hp0 hbx0 (by decide); obtain ⟨nx1, hnx1, rfl⟩ := jnat hp2 hbx1 (by decide); clear hbx0 hbx1; clear hp0 hp1 hp2 hp3; have hcs := (jband (decide_eq_true c2) (jband (decide_eq_true c15) (jband (decide_eq_true c33) (jband (decide_eq_true c54) (jband (decide_eq_true c63) (decide_eq_true c81)))))); clear c2 c15 c33 c54 c63 c81; apply of_decide_eq_true; revert hcs; revert nx1; revert nx0; decide +kernel)⟩, rfl⟩)
            · refine J_iload dX0_turnedInCubes_84 rfl ?_
              refine J_goto (tgt := 93) dX0_turnedInCubes_86 (by decide) ?_
              exact J_ret (r := some (.int _)) dX0_turnedInCubes_93 ⟨rfl, _, rfl, rfl⟩ (⟨⟨_, rfl, (j_rng _).1, (j_rng _).2, (by have hbx0 : x0.toInt < 48 := hp1; have hbx1 : x1.toInt < 6 := hp3; obtain ⟨nx0, hnx0, rfl⟩ := jnat hp0 hbx0 (by decide); obtain ⟨nx1, hnx1, rfl⟩ := jnat hp2 hbx1 (by decide); clear hbx0 hbx1; clear hp0 hp1 hp2 hp3; have hcs := (jband (decide_eq_true c2) (jband (decide_eq_true c15) (jband (decide_eq_true c33) (jband (decide_eq_true c54) (jband (decide_eq_true c63) (decide_eq_true c81)))))); clear c2 c15 c33 c54 c63 c81; apply of_decide_eq_true; revert hcs; revert nx1; revert nx0; decide +kernel)⟩, rfl⟩)
          · refine J_gets (k := 2) rfl jw_fl_X0_33 dX0_turnedInCubes_66 ?_
            refine J_iload dX0_turnedInCubes_69 rfl ?_
            refine J_ti (k := 2) rfl rfl dX0_turnedInCubes_71 (by exact vp_in_g (by assumption) (by assumption) (by decide)) rfl ?_
            refine J_goto (tgt := 76) dX0_turnedInCubes_72 (by decide) ?_
            refine J_istore dX0_turnedInCubes_76 rfl (by decide) ?_
            refine J_iload_n dX0_turnedInCubes_78 rfl ?_
            refine J_iload dX0_turnedInCubes_79 rfl ?_
            refine J_icmp_ne (tgt := 89) dX0_turnedInCubes_81 (by decide) (fun c81 => ?_) (fun c81 => ?_)
            · refine J_iload dX0_turnedInCubes_89 rfl ?_
              refine J_iconst (v := 3) dX0_turnedInCubes_91 (by decide) ?_
              refine J_iadd dX0_turnedInCubes_92 ?_
              exact J_ret (r := some (.int _)) dX0_turnedInCubes_93 ⟨rfl, _, rfl, rfl⟩ (⟨⟨_, rfl, (j_rng _).1, (j_rng _).2, (by have hbx0 : x0.toInt < 48 := hp1; have hbx1 : x1.toInt < 6 := hp3; obtain ⟨nx0, hnx0, rfl⟩ := jnat hp0 hbx0 (by decide); obtain ⟨nx1, hnx1, rfl⟩ := jnat hp2 hbx1 (by decide); clear hbx0 hbx1; clear hp0 hp1 hp2 hp3; have hcs := (jband (decide_eq_true c2) (jband (decide_eq_true c15) (jband (decide_eq_true c33) (jband (decide_eq_true c54) (jband (decide_eq_true c63) (decide_eq_true c81)))))); clear c2 c15 c33 c54 c63 c81; apply of_decide_eq_true; revert hcs; revert nx1; revert nx0; decide +kernel)⟩, rfl⟩)
            · refine J_iload dX0_turnedInCubes_84 rfl ?_
              refine J_goto (tgt := 93) dX0_turnedInCubes_86 (by decide) ?_
              exact J_ret (r := some (.int _)) dX0_turnedInCubes_93 ⟨rfl, _, rfl, rfl⟩ (⟨⟨_, rfl, (j_rng _).1, (j_rng _).2, (by have hbx0 : x0.toInt < 48 := hp1; have hbx1 : x1.toInt < 6 := hp3; obtain ⟨nx0, hnx0, rfl⟩ := jnat hp0 hbx0 (by decide); obtain ⟨nx1, hnx1, rfl⟩ := jnat hp2 hbx1 (by decide); clear hbx0 hbx1; clear hp0 hp1 hp2 hp3; have hcs := (jband (decide_eq_true c2) (jband (decide_eq_true c15) (jband (decide_eq_true c33) (jband (decide_eq_true c54) (jband (decide_eq_true c63) (decide_eq_true c81)))))); clear c2 c15 c33 c54 c63 c81; apply of_decide_eq_true; revert hcs; revert nx1; revert nx0; decide +kernel)⟩, rfl⟩)
set_option maxRecDepth 100000 in
set_option maxHeartbeats 4000000 in
theorem w_X3_init {tS : jTS} (d : Nat) (V0 : jH) (p : Nat → Prop) (q : Nat) (x1 : Int32)  (hd : 1 ≤ d) (hW : WTx (fun a => p a ∨ a = q) V0) (hq : V0 q = some (.inr (1, [.int 0, .null, .null, .null, .null, .int 0, .int 0]))) (hnp : ¬ p q)   : jTot tS mX3_init d [.ref q, .int x1] V0 4 484 (fun r V => r = none ∧ WTx p V ∧ jeff [.inr 1] V0 V ∧ jis V (.inr 1) q ∧ (jnw V0 V q x1)) := by
  refine jTot.of_J [some (.ref q), some (.int x1)] moX3_init (Nat.le_of_ble_eq_true rfl) rfl ?_
  have he : jeff [.inr 1] V0 V0 := jeff.refl _ _
  have hkp : jfa [q] V0 V0 := jfa.rf
  refine J_aload_n dX3_init_0 rfl ?_
  refine J_objInit jw_ml_X3_3 jw_oi2 jw_oi3 dX3_init_1 (by omega) (Nat.le_of_ble_eq_true rfl) ?_
  refine J_aload_n dX3_init_4 rfl ?_
  refine J_iconst (v := 0) dX3_init_5 (by decide) ?_
  refine Jc_put jf_X3_9 jt_X3_5 dX3_init_6 hq rfl rfl (Nat.le_of_ble_eq_true rfl) (fun _ h => by cases h) hW (fun V6 hq hW hx6 hB6 => ?_)
  have hkp := hkp.trans he.1 (jfa.one hB6)
  have he := he.trans (hx6.sub (jsub_of rfl))
  refine J_aload_n dX3_init_9 rfl ?_
  refine J_iconst (v := 0) dX3_init_10 (by decide) ?_
  refine Jc_put jf_X3_15 jt_X3_6 dX3_init_11 hq rfl rfl (Nat.le_of_ble_eq_true rfl) (fun _ h => by cases h) hW (fun V11 hq hW hx11 hB11 => ?_)
  have hkp := hkp.trans he.1 (jfa.one hB11)
  have he := he.trans (hx11.sub (jsub_of rfl))
  refine J_aload_n dX3_init_14 rfl ?_
  refine J_iconst (v := 0) dX3_init_15 (by decide) ?_
  refine J_iload_n dX3_init_16 rfl ?_
  refine J_bipush (v := 120) dX3_init_17 (by decide) ?_
  refine J_mmin jw_ml_X3_18 dX3_init_19 (by omega) (Nat.le_of_ble_eq_true rfl) ?_
  refine J_mmax jw_ml_X3_24 dX3_init_22 (by omega) (Nat.le_of_ble_eq_true rfl) ?_
  refine Jc_putF jf_X3_27 jt_X3_0 rfl (fun _ h => by cases h; rfl) dX3_init_25 hq rfl rfl (Nat.le_of_ble_eq_true rfl) (fun _ h => by cases h) hW (fun V25 hq hW hx25 hB25 => ?_)
  have hkp := hkp.trans he.1 (jfa.one hB25)
  have he := he.trans (hx25.sub (jsub_of rfl))
  refine J_aload_n dX3_init_28 rfl ?_
  refine J_aload_n dX3_init_29 rfl ?_
  refine J_get jf_X3_27 dX3_init_30 hq rfl ?_
  refine Jc_newax (atype := .int) (t := 6) (B := 121) (x := .inl (fun _ => 0)) jw_ac_int rfl (fun _ h => by cases h) (by decide) dX3_init_33 (jmost_lo _) (jmost_hi _) (by decide) (fun _ _ => rfl) (fun hN => jok_zI rfl (by decide) (by decide) (fun m h => by cases h <;> rfl) hN) (by decide) (by decide) hW (fun b33 V33 hn33 hb33 hk33 hW hx33 hA33 => ?_)
  have hz33 := he.1.none hn33
  have hkp := hkp.trans he.1 (jfa.new hk33)
  have he := he.trans (hx33.sub (jsub_of rfl))
  have hq := hk33 _ _ hq
  refine Jc_putF jf_X3_30 jt_X3_1 rfl (fun _ h => by cases h; rfl) dX3_init_35 hq rfl rfl (Nat.le_of_ble_eq_true rfl) (fun _ h => by cases h) hW (fun V35 hq hW hx35 hB35 => ?_)
  have hkp := hkp.trans he.1 (jfa.one hB35)
  have he := he.trans (hx35.sub (jsub_of rfl))
  have hb33 := hb33.mono hx35.1
  have hA33 := hx35.2 _ _ hA33 (jnot_of rfl)
  refine J_aload_n dX3_init_38 rfl ?_
  refine J_aload_n dX3_init_39 rfl ?_
  refine J_get jf_X3_27 dX3_init_40 hq rfl ?_
  refine J_iconst (v := 1) dX3_init_43 (by decide) ?_
  refine J_iadd dX3_init_44 ?_
  refine Jc_newax (atype := .int) (t := 34) (B := 121) (x := .inl (fun _ => 0)) jw_ac_int rfl (fun _ h => by cases h) (by decide) dX3_init_45 (jmost1_lo _) (jmost1_hi _) (by decide) (fun _ _ => rfl) (fun hN => jok_zI rfl (by decide) (by decide) (fun m h => by cases h <;> rfl) hN) (by decide) (by decide) hW (fun b45 V45 hn45 hb45 hk45 hW hx45 hA45 => ?_)
  have hz45 := he.1.none hn45
  have hkp := hkp.trans he.1 (jfa.new hk45)
  have he := he.trans (hx45.sub (jsub_of rfl))
  have hb33 := hb33.mono hx45.1
  have hq := hk45 _ _ hq
  have hA33 := hk45 _ _ hA33
  refine Jc_putF jf_X3_34 jt_X3_2 rfl (fun _ h => by cases h; rfl) dX3_init_47 hq rfl rfl (Nat.le_of_ble_eq_true rfl) (fun _ h => by cases h) hW (fun V47 hq hW hx47 hB47 => ?_)
  have hkp := hkp.trans he.1 (jfa.one hB47)
  have he := he.trans (hx47.sub (jsub_of rfl))
  have hb33 := hb33.mono hx47.1
  have hb45 := hb45.mono hx47.1
  have hA33 := hx47.2 _ _ hA33 (jnot_of rfl)
  have hA45 := hx47.2 _ _ hA45 (jnot_of rfl)
  refine J_aload_n dX3_init_50 rfl ?_
  refine J_aload_n dX3_init_51 rfl ?_
  refine J_get jf_X3_27 dX3_init_52 hq rfl ?_
  refine J_iconst (v := 1) dX3_init_55 (by decide) ?_
  refine J_iadd dX3_init_56 ?_
  refine Jc_newax (atype := .int) (t := 35) (B := 121) (x := .inl (fun _ => 0)) jw_ac_int rfl (fun _ h => by cases h) (by decide) dX3_init_57 (jmost1_lo _) (jmost1_hi _) (by decide) (fun _ _ => rfl) (fun hN => jok_zI rfl (by decide) (by decide) (fun m h => by cases h <;> rfl) hN) (by decide) (by decide) hW (fun b57 V57 hn57 hb57 hk57 hW hx57 hA57 => ?_)
  have hz57 := he.1.none hn57
  have hkp := hkp.trans he.1 (jfa.new hk57)
  have he := he.trans (hx57.sub (jsub_of rfl))
  have hb33 := hb33.mono hx57.1
  have hb45 := hb45.mono hx57.1
  have hq := hk57 _ _ hq
  have hA33 := hk57 _ _ hA33
  have hA45 := hk57 _ _ hA45
  refine Jc_putF jf_X3_37 jt_X3_3 rfl (fun _ h => by cases h; rfl) dX3_init_59 hq rfl rfl (Nat.le_of_ble_eq_true rfl) (fun _ h => by cases h) hW (fun V59 hq hW hx59 hB59 => ?_)
  have hkp := hkp.trans he.1 (jfa.one hB59)
  have he := he.trans (hx59.sub (jsub_of rfl))
  have hb33 := hb33.mono hx59.1
  have hb45 := hb45.mono hx59.1
  have hb57 := hb57.mono hx59.1
  have hA33 := hx59.2 _ _ hA33 (jnot_of rfl)
  have hA45 := hx59.2 _ _ hA45 (jnot_of rfl)
  have hA57 := hx59.2 _ _ hA57 (jnot_of rfl)
  refine J_aload_n dX3_init_62 rfl ?_
  refine J_aload_n dX3_init_63 rfl ?_
  refine J_get jf_X3_27 dX3_init_64 hq rfl ?_
  refine J_iconst (v := 1) dX3_init_67 (by decide) ?_
  refine J_iadd dX3_init_68 ?_
  refine Jc_newax (atype := .int) (t := 36) (B := 121) (x := .inl (fun _ => 0)) jw_ac_int rfl (fun _ h => by cases h) (by decide) dX3_init_69 (jmost1_lo _) (jmost1_hi _) (by decide) (fun _ _ => rfl) (fun hN => jok_zI rfl (by decide) (by decide) (fun m h => by cases h <;> rfl) hN) (by decide) (by decide) hW (fun b69 V69 hn69 hb69 hk69 hW hx69 hA69 => ?_)
  have hz69 := he.1.none hn69
  have hkp := hkp.trans he.1 (jfa.new hk69)
  have he := he.trans (hx69.sub (jsub_of rfl))
  have hb33 := hb33.mono hx69.1
  have hb45 := hb45.mono hx69.1
  have hb57 := hb57.mono hx69.1
  have hq := hk69 _ _ hq
  have hA33 := hk69 _ _ hA33
  have hA45 := hk69 _ _ hA45
  have hA57 := hk69 _ _ hA57
  refine Jc_putF jf_X3_40 jt_X3_4 rfl (fun _ h => by cases h; rfl) dX3_init_71 hq rfl rfl (Nat.le_of_ble_eq_true rfl) (fun _ h => by cases h) hW (fun V71 hq hW hx71 hB71 => ?_)
  have hkp := hkp.trans he.1 (jfa.one hB71)
  have he := he.trans (hx71.sub (jsub_of rfl))
  have hb33 := hb33.mono hx71.1
  have hb45 := hb45.mono hx71.1
  have hb57 := hb57.mono hx71.1
  have hb69 := hb69.mono hx71.1
  have hA33 := hx71.2 _ _ hA33 (jnot_of rfl)
  have hA45 := hx71.2 _ _ hA45 (jnot_of rfl)
  have hA57 := hx71.2 _ _ hA57 (jnot_of rfl)
  have hA69 := hx71.2 _ _ hA69 (jnot_of rfl)
  have hlm := jmost_lo x1
  have hhm := jmost_hi0 x1
  exact J_ret (r := none) dX3_init_74 ⟨rfl, rfl⟩ (⟨rfl, hW.fin hq (jokO_cons ⟨_, rfl, by first | decide | assumption | omega, by first | decide | assumption | omega⟩ (jokO_cons ⟨_, rfl, hb33⟩ (jokO_cons ⟨_, rfl, hb45⟩ (jokO_cons ⟨_, rfl, hb57⟩ (jokO_cons ⟨_, rfl, hb69⟩ (jokO_cons ⟨_, rfl, (j_rng _).1, (j_rng _).2⟩ (jokO_cons ⟨_, rfl, by first | decide | assumption | omega, by first | decide | assumption | omega⟩ (jokO_nil)))))))), he, ⟨_, hq, rfl⟩, jnw.mk hz33 hz45 hz57 hz69 ⟨_, hq, rfl⟩ ⟨_, hq, rfl⟩ ⟨_, hq, rfl⟩ ⟨_, hq, rfl⟩ ⟨_, hq, rfl⟩ ⟨_, hq, rfl⟩ ⟨_, hq, rfl⟩ hA33 hA45 hA57 hA69 hkp⟩)
set_option maxRecDepth 100000 in
set_option maxHeartbeats 8000000 in
theorem w_X0_isGround_z {tS : jTS} (d : Nat) (V0 : jH) (x0 : Int32) (hd : 0 ≤ d)   : jTot tS mX0_isGround d [.int x0] V0 0 0 (fun r V => (fun r _ => ∃ y : Int32, r = some (.int y) ∧ (0 ≤ y.toInt) ∧ (y.toInt ≤ 1) ∧ ((y.toInt = 1 ∧ 0 ≤ x0.toInt ∧ x0.toInt ≤ 3) ∨ (y.toInt = 0 ∧ ¬ (0 ≤ x0.toInt ∧ x0.toInt ≤ 3)))) r V ∧ V = V0) := by
  refine jTot.of_J [some (.int x0)] moX0_isGround (Nat.le_of_ble_eq_true rfl) rfl ?_
  have hrx0 := j_rng x0
  refine J_iload_n dX0_isGround_0 rfl ?_
  refine Jz_if_lt (tgt := 13) jEq.rf dX0_isGround_1 (by decide) (fun c1 => ?_) (fun c1 => ?_)
  · refine Jz_iconst 0 dX0_isGround_13 (by decide) (fun y13 he13 => ?_)
    exact J_ret (r := some (.int _)) dX0_isGround_14 ⟨rfl, _, rfl, (nar_b (by (try simp only [he13.eq, true_and, and_true]) <;> omega) (by (try simp only [he13.eq, true_and, and_true]) <;> omega))⟩ (⟨⟨_, rfl, (by (try simp only [he13.eq, true_and, and_true]) <;> omega), (by (try simp only [he13.eq, true_and, and_true]) <;> omega), (by (try simp only [he13.eq, true_and, and_true]) <;> omega)⟩, rfl⟩)
  · refine J_iload_n dX0_isGround_4 rfl ?_
    refine Jz_iconst 4 dX0_isGround_5 (by decide) (fun y5 he5 => ?_)
    refine Jz_icmp_ge (tgt := 13) jEq.rf he5 dX0_isGround_6 (by decide) (fun c6 => ?_) (fun c6 => ?_)
    · refine Jz_iconst 0 dX0_isGround_13 (by decide) (fun y13 he13 => ?_)
      exact J_ret (r := some (.int _)) dX0_isGround_14 ⟨rfl, _, rfl, (nar_b (by (try simp only [he13.eq, true_and, and_true]) <;> omega) (by (try simp only [he13.eq, true_and, and_true]) <;> omega))⟩ (⟨⟨_, rfl, (by (try simp only [he13.eq, true_and, and_true]) <;> omega), (by (try simp only [he13.eq, true_and, and_true]) <;> omega), (by (try simp only [he13.eq, true_and, and_true]) <;> omega)⟩, rfl⟩)
    · refine Jz_iconst 1 dX0_isGround_9 (by decide) (fun y9 he9 => ?_)
      refine J_goto (tgt := 14) dX0_isGround_10 (by decide) ?_
      exact J_ret (r := some (.int _)) dX0_isGround_14 ⟨rfl, _, rfl, (nar_b (by (try simp only [he9.eq, true_and, and_true]) <;> omega) (by (try simp only [he9.eq, true_and, and_true]) <;> omega))⟩ (⟨⟨_, rfl, (by (try simp only [he9.eq, true_and, and_true]) <;> omega), (by (try simp only [he9.eq, true_and, and_true]) <;> omega), (by (try simp only [he9.eq, true_and, and_true]) <;> omega)⟩, rfl⟩)
set_option maxRecDepth 100000 in
set_option maxHeartbeats 8000000 in
theorem w_X3_begin_z {tS : jTS} (d : Nat) (V0 : jH) (a0 : Nat) (x1 : Int32) (M : Int32) (hd : 0 ≤ d) (hW : WT V0) (ha0 : jis V0 (.inr 1) a0) (hf_M : jfI V0 a0 1 0 M) : jTot tS mX3_begin d [.ref a0, .int x1] V0 0 0 (fun r V => (jPost [.inr 1] V0 rV) r V ∧ jfp [a0] V0 V ∧ (∃ M2 : Int32, jfI V a0 1 0 M2 ∧ (M2.toInt = M.toInt)) ∧ (∃ g2 : Int32, jfI V a0 1 5 g2 ∧ (g2.toInt = x1.toInt)) ∧ (∃ n2 : Int32, jfI V a0 1 6 n2 ∧ (n2.toInt = 0))) := by
  refine jTot.of_J [some (.ref a0), some (.int x1)] moX3_begin (Nat.le_of_ble_eq_true rfl) rfl ?_
  have hrx1 := j_rng x1
  have he : jeff [.inr 1] V0 V0 := jeff.refl _ _
  have hfp : jfp [a0] V0 V0 := jfp.rf
  obtain ⟨fs_a0, hO_a0, hK_a0⟩ := WT_obj hW id ha0
  have hF_M := hf_M.get hO_a0
  have hrM : 0 ≤ M.toInt ∧ M.toInt ≤ 120 := jok_rngI hK_a0 rfl hF_M
  refine J_aload_n dX3_begin_0 rfl ?_
  refine J_iload_n dX3_begin_1 rfl ?_
  refine Jz_putI hO_a0 hW id rfl jf_X3_9 jt_X3_5 jEq.rf dX3_begin_2 (j_rng _).1 (j_rng _).2 (fun _ _ => ⟨rfl, rfl⟩) (fun V2 fs2 hW hx2 hO2 hS2 hT2 hB2 => ?_)
  have hK2 : jokO _ (jFs 1) fs2 := hW _ _ id hO2
  have hF2_0 := (hT2 0 (by decide)).trans hF_M
  have he := he.trans (hx2.sub (jsub_of rfl))
  have hfp := hfp.trans (jfp.one hB2 List.mem_cons_self)
  have ha0 := ha0.mono hx2.1
  refine J_aload_n dX3_begin_5 rfl ?_
  refine Jz_iconst 0 dX3_begin_6 (by decide) (fun y6 he6 => ?_)
  refine Jz_putI hO2 hW id rfl jf_X3_15 jt_X3_6 he6 dX3_begin_7 (by omega) (by omega) (fun _ _ => ⟨rfl, rfl⟩) (fun V7 fs7 hW hx7 hO7 hS7 hT7 hB7 => ?_)
  have hK7 : jokO _ (jFs 1) fs7 := hW _ _ id hO7
  have hF7_5 := (hT7 5 (by decide)).trans hS2
  have hF7_0 := (hT7 0 (by decide)).trans hF2_0
  have he := he.trans (hx7.sub (jsub_of rfl))
  have hfp := hfp.trans (jfp.one hB7 List.mem_cons_self)
  have ha0 := ha0.mono hx7.1
  exact J_ret (r := none) dX3_begin_10 ⟨rfl, rfl⟩ (⟨⟨hW, he, rfl⟩, hfp, ⟨_, ⟨_, hO7, hF7_0⟩, (by omega)⟩, ⟨_, ⟨_, hO7, hF7_5⟩, (by omega)⟩, ⟨_, ⟨_, hO7, hS7⟩, (by (try simp only [he6.eq, true_and, and_true]) <;> omega)⟩⟩)
theorem w_X6_walk_zgo {tS : jTS} (d : Nat) (V0 : jH) (a0 : Nat) (x1 : Int32) (k : Int32) (md : Nat) (f : Nat → Option Nat) (hd : 6 ≤ d) (hW : WT V0) (ha0 : jis V0 (.inr 4) a0) (hk1 : jfI V0 a0 4 1 k) (hmd : jfR V0 a0 4 0 md) (hA : V0 md = some (.inl (4, 16, .inr (.inr (.inr (.inr f)))))) (hk0 : 0 ≤ k.toInt) (hk : k.toInt < 16) (hx0 : 0 ≤ x1.toInt) (hx3 : x1.toInt ≤ 3) : jTot tS mX6_walk d [.ref a0, .int x1] V0 5 491 (fun r V => (jPost [.inr 1, .inl 4, .inr 4] V0 (fun r _ => ∃ y : Int32, r = some (.int y) ∧ y.toInt = k.toInt)) r V ∧ (∃ w : Int32, jfI V a0 4 1 w ∧ w.toInt = k.toInt + 1) ∧ ∃ q s xx yy zz : Nat, (V0 q = none ∧ V0 s = none ∧ V0 xx = none ∧ V0 yy = none ∧ V0 zz = none) ∧ jrw V q s xx yy zz 60 x1.toInt 0 (fun _ => 0) (fun _ => 0) (fun _ => 0) (fun _ => 0) ∧ V md = some (.inl (4, 16, .inr (.inr (.inr (.inr (va_up f k.toInt.toNat (some q))))))) ∧ ∀ (b : Nat) (e : jE), b ≠ a0 → b ≠ md → V0 b = some e → V b = some e) := by
  refine jTot.of_J [some (.ref a0), some (.int x1), none] moX6_walk (Nat.le_of_ble_eq_true rfl) rfl ?_
  obtain ⟨fs, hO, hF1⟩ := hk1
  have hF0 := hmd.get hO
  have hK : jokO V0 (jFs 4) fs := hW _ _ id hO
  refine J_iload_n dX6_walk_0 rfl ?_
  refine J_callS1 moX0_isGround jw_ml_X6_46 jw_st_X0_isGround dX6_walk_1 (w_X0_isGround_z (d - 1) _ x1 (by omega)) (by omega) (Nat.zero_le _) (Nat.zero_le _) (Nat.le_of_ble_eq_true rfl) (fun r1 V1 h1 => ?_)
  obtain ⟨⟨y1, rfl, hl1, hh1, hP1_0⟩, hE1⟩ := h1
  have hE1 := hE1.symm
  subst hE1
  refine Jz_if_ne (tgt := 10) jEq.rf dX6_walk_4 (by decide) (fun c4 => ?_) (fun c4 => (show False by omega).elim)
  refine J_aload_n dX6_walk_10 rfl ?_
  refine J_get jf_X6_15 dX6_walk_11 hO hF1 ?_
  refine Jz_if_lt (tgt := 29) jEq.rf dX6_walk_14 (by decide) (fun c14 => (show False by omega).elim) (fun c14 => ?_)
  refine J_aload_n dX6_walk_17 rfl ?_
  refine J_get jf_X6_15 dX6_walk_18 hO hF1 ?_
  refine J_aload_n dX6_walk_21 rfl ?_
  refine J_get jf_X6_11 dX6_walk_22 hO hF0 ?_
  refine J_alen dX6_walk_25 hA rfl rfl ?_
  have he25 : jEq (Int32.ofNat 16).toInt 16 := nI_toInt (by decide)
  generalize Int32.ofNat 16 = y25 at he25 ⊢
  refine Jz_icmp_lt (tgt := 32) jEq.rf he25 dX6_walk_26 (by decide) (fun c26 => ?_) (fun c26 => (show False by omega).elim)
  refine Jc_new jn_X6_9 dX6_walk_32 (by decide) (by decide) hW (fun q V2 hn2 hQ2 hk2 hW hx2 => ?_)
  refine J_dup dX6_walk_35 rfl ?_
  refine J_bipush (v := 60) dX6_walk_36 (by decide) ?_
  refine J_callI1 moX3_init rfl rfl jw_ml_X6_19 jw_im_X3_init dX6_walk_38 (w_X3_init (d - 1) _ (fun _ => False) _ _ (by omega) hW hQ2 (fun h => h)) (by omega) (by decide) (by decide) (Nat.le_of_ble_eq_true rfl) (fun r3 V3 h3 => ?_)
  obtain ⟨rfl, hW, hx3', hj3, s, xx, yy, zz, ⟨n1, n2, n3, n4⟩, hjw, hfa⟩ := h3
  rw [show (jmost 60).toInt.toNat = 60 by decide] at hjw
  obtain ⟨⟨q0, m0, e0⟩, m5, m6, r1, r2, r3, r4, a1, a2, a3, a4⟩ := hjw
  refine J_astore_n dX6_walk_41 rfl (by decide) ?_
  refine J_aload_n dX6_walk_42 rfl ?_
  refine J_iload_n dX6_walk_43 rfl ?_
  refine Jw_callV1 (q9 := (RX3, TX3, 7)) moX3_begin jw_ml_X6_52 jw_im_X3_begin jw_se_X3_begin hj3 rfl rfl dX6_walk_44 (w_X3_begin_z (d - 1) _ q x1 q0 (by omega) hW hj3 m0) (by omega) (Nat.zero_le _) (Nat.zero_le _) (Nat.le_of_ble_eq_true rfl) (fun r4' V4 h4 => ?_)
  obtain ⟨⟨hW, hx4, hr4⟩, hfp4, ⟨M2, b0, c0⟩, ⟨g2, b5, c5⟩, ⟨n2', b6, c6⟩⟩ := h4
  cases hr4
  have he := ((hx2.sub (jsub_of rfl : ∀ k ∈ ([] : List jKd), k ∈ ([.inr 1, .inl 4, .inr 4] : List jKd))).trans (hx3'.sub (jsub_of rfl))).trans (hx4.sub (jsub_of rfl))
  have hO4 := hx4.2 _ _ (hx3'.2 _ _ (hx2.2 _ _ hO (jnot_of rfl)) (jnot_of rfl)) (jnot_of rfl)
  have hA4 := hx4.2 _ _ (hx3'.2 _ _ (hx2.2 _ _ hA (jnot_of rfl)) (jnot_of rfl)) (jnot_of rfl)
  refine J_aload_n dX6_walk_47 rfl ?_
  refine J_get jf_X6_11 dX6_walk_48 hO4 hF0 ?_
  refine J_aload_n dX6_walk_51 rfl ?_
  refine J_get jf_X6_15 dX6_walk_52 hO4 hF1 ?_
  refine J_aload_n dX6_walk_55 rfl ?_
  refine Jw_aast hW id dX6_walk_56 rfl rfl hA4 rfl (hj3.mono hx4.1) (vp_in_n (by omega) (by omega)) (fun V5 hW hx5 hy5 hw5 => ?_)
  have hO5 := hx5.2 _ _ hO4 (jnot_of rfl)
  have hK5 : jokO V5 (jFs 4) fs := hW _ _ id hO5
  refine J_aload_n dX6_walk_57 rfl ?_
  refine J_dup dX6_walk_58 rfl ?_
  refine J_get jf_X6_15 dX6_walk_59 hO5 hF1 ?_
  refine Jz_iconst 1 dX6_walk_62 (by decide) (fun y6 he6 => ?_)
  refine Jz_iadd jEq.rf he6 dX6_walk_63 (by omega) (by omega) (fun y7 he7 => ?_)
  refine Jz_putI hO5 hW id rfl jf_X6_15 jt_X6_1 he7 dX6_walk_64 (by omega) (by omega) (fun _ _ => ⟨rfl, rfl⟩) (fun V6 fs6 hW hx6 hO6 hS6 hT6 hB6 => ?_)
  refine J_aload_n dX6_walk_67 rfl ?_
  refine J_get jf_X6_15 dX6_walk_68 hO6 hS6 ?_
  refine Jz_iconst 1 dX6_walk_71 (by decide) (fun y8 he8 => ?_)
  refine Jz_isub he7 he8 dX6_walk_72 (by omega) (by omega) (fun y9 he9 => ?_)
  have hq2 : V0 q = none := hn2
  have hnx : ∀ b : Nat, V2 b = none → V0 b = none := fun b hb => hx2.1.none hb
  refine J_ret (r := some (.int _)) dX6_walk_73 ⟨rfl, _, rfl, rfl⟩ ⟨⟨hW, (he.trans (hx5.sub (jsub_of rfl))).trans (hx6.sub (jsub_of rfl)), _, rfl, by rw [he9.eq]; omega⟩, ⟨y7, ⟨_, hO6, hS6⟩, he7.eq⟩, q, s, xx, yy, zz, ⟨hq2, hnx s n1, hnx xx n2, hnx yy n3, hnx zz n4⟩, ?_, ?_, ?_⟩
  · refine jrw.keep (jrw.keep ⟨⟨M2, b0, by rw [c0]; exact e0⟩, ⟨g2, b5, c5⟩, ⟨n2', b6, c6⟩, r1.mono hx4.1, r2.mono hx4.1, r3.mono hx4.1, r4.mono hx4.1, hx4.2 _ _ a1 (jnot_of rfl), hx4.2 _ _ a2 (jnot_of rfl), hx4.2 _ _ a3 (jnot_of rfl), hx4.2 _ _ a4 (jnot_of rfl)⟩ hx5 (jdis_of rfl)) hx6 (jdis_of rfl)
  · exact hx6.2 _ _ hw5 (jnot_of rfl)
  · intro b e hb1 hb2 h
    have hbq : b ∉ [q] := fun z => by rw [List.mem_singleton.mp z, hq2] at h; cases h
    rw [hB6 b hb1, hy5 b hb2, hfp4 b hbq]
    exact hfa b e hbq (hk2 b e h)
set_option maxRecDepth 100000 in
set_option maxHeartbeats 8000000 in
theorem w_X0_directions_z {tS : jTS} (d : Nat) (V0 : jH) (x0 : Int32) (hd : 0 ≤ d)   : jTot tS mX0_directions d [.int x0] V0 0 0 (fun r V => (fun r _ => ∃ y : Int32, r = some (.int y) ∧ (3 ≤ y.toInt) ∧ (y.toInt ≤ 6) ∧ (y.toInt = jdir x0.toInt)) r V ∧ V = V0) := by
  refine jTot.of_J [some (.int x0)] moX0_directions (Nat.le_of_ble_eq_true rfl) rfl ?_
  have hrx0 := j_rng x0
  have hjd := jdir_cases x0.toInt
  refine J_iload_n dX0_directions_0 rfl ?_
  refine Jz_if_ne (tgt := 8) jEq.rf dX0_directions_1 (by decide) (fun c1 => ?_) (fun c1 => ?_)
  · refine J_iload_n dX0_directions_8 rfl ?_
    refine Jz_iconst 2 dX0_directions_9 (by decide) (fun y9 he9 => ?_)
    refine Jz_icmp_ne (tgt := 17) jEq.rf he9 dX0_directions_10 (by decide) (fun c10 => ?_) (fun c10 => ?_)
    · refine Jz_bipush 6 dX0_directions_17 (by decide) (fun y17 he17 => ?_)
      exact J_ret (r := some (.int _)) dX0_directions_19 ⟨rfl, _, rfl, rfl⟩ (⟨⟨_, rfl, (by (try simp only [he17.eq, true_and, and_true]) <;> omega), (by (try simp only [he17.eq, true_and, and_true]) <;> omega), (by (try simp only [he17.eq, true_and, and_true]) <;> omega)⟩, rfl⟩)
    · refine Jz_iconst 3 dX0_directions_13 (by decide) (fun y13 he13 => ?_)
      refine J_goto (tgt := 19) dX0_directions_14 (by decide) ?_
      exact J_ret (r := some (.int _)) dX0_directions_19 ⟨rfl, _, rfl, rfl⟩ (⟨⟨_, rfl, (by (try simp only [he13.eq, true_and, and_true]) <;> omega), (by (try simp only [he13.eq, true_and, and_true]) <;> omega), (by (try simp only [he13.eq, true_and, and_true]) <;> omega)⟩, rfl⟩)
  · refine Jz_iconst 4 dX0_directions_4 (by decide) (fun y4 he4 => ?_)
    refine J_goto (tgt := 19) dX0_directions_5 (by decide) ?_
    exact J_ret (r := some (.int _)) dX0_directions_19 ⟨rfl, _, rfl, rfl⟩ (⟨⟨_, rfl, (by (try simp only [he4.eq, true_and, and_true]) <;> omega), (by (try simp only [he4.eq, true_and, and_true]) <;> omega), (by (try simp only [he4.eq, true_and, and_true]) <;> omega)⟩, rfl⟩)
set_option maxRecDepth 100000 in
set_option maxHeartbeats 8000000 in
theorem w_X6_walk_zold {tS : jTS} (d : Nat) (V0 : jH) (a0 : Nat) (x1 : Int32) (v1 : Int32) (hd : 2 ≤ d) (hW : WT V0) (ha0 : jis V0 (.inr 4) a0) (hf_v1 : jfI V0 a0 4 1 v1) (hp0 : v1.toInt = 16) : jTot tS mX6_walk d [.ref a0, .int x1] V0 0 0 (fun r V => (fun r _ => ∃ y : Int32, r = some (.int y) ∧ ((-2147483648) ≤ y.toInt) ∧ (y.toInt ≤ 2147483647) ∧ ((¬ (0 ≤ x1.toInt ∧ x1.toInt ≤ 3) ∧ y.toInt = -2) ∨ (0 ≤ x1.toInt ∧ x1.toInt ≤ 3 ∧ y.toInt = -4))) r V ∧ V = V0) := by
  refine jTot.of_J [some (.ref a0), some (.int x1), none] moX6_walk (Nat.le_of_ble_eq_true rfl) rfl ?_
  have hrx1 := j_rng x1
  have he : jeff [] V0 V0 := jeff.refl _ _
  obtain ⟨fs_a0, hO_a0, hK_a0⟩ := WT_obj hW id ha0
  have hF_v1 := hf_v1.get hO_a0
  have hrv1 : 0 ≤ v1.toInt ∧ v1.toInt ≤ 16 := jok_rngI hK_a0 rfl hF_v1
  refine J_iload_n dX6_walk_0 rfl ?_
  refine J_callS1 moX0_isGround jw_ml_X6_46 jw_st_X0_isGround dX6_walk_1 (w_X0_isGround_z (d - 1) _ x1 (by omega)   ) (by omega) (Nat.zero_le _) (Nat.zero_le _) (Nat.le_of_ble_eq_true rfl) (fun r1 V1 h1 => ?_)
  obtain ⟨⟨y1, rfl, hl1, hh1, hP1_0⟩, hE1⟩ := h1
  have hE1 := hE1.symm
  subst hE1
  refine Jz_if_ne (tgt := 10) jEq.rf dX6_walk_4 (by decide) (fun c4 => ?_) (fun c4 => ?_)
  · refine J_aload_n dX6_walk_10 rfl ?_
    refine J_get jf_X6_15 dX6_walk_11 hO_a0 hF_v1 ?_
    refine Jz_if_lt (tgt := 29) jEq.rf dX6_walk_14 (by decide) (fun c14 => ?_) (fun c14 => ?_)
    · refine Jz_bipush (-4) dX6_walk_29 (by decide) (fun y29 he29 => ?_)
      exact J_ret (r := some (.int _)) dX6_walk_31 ⟨rfl, _, rfl, rfl⟩ (⟨⟨_, rfl, (j_rng _).1, (j_rng _).2, (by (try simp only [he29.eq, true_and, and_true]) <;> omega)⟩, rfl⟩)
    · refine J_aload_n dX6_walk_17 rfl ?_
      refine J_get jf_X6_15 dX6_walk_18 hO_a0 hF_v1 ?_
      refine J_aload_n dX6_walk_21 rfl ?_
      obtain ⟨w22, hF22, b22, rfl, hb22⟩ := hK_a0.2 0 (.inr (some (.inl 4))) rfl
      refine J_get jf_X6_11 dX6_walk_22 hO_a0 hF22 ?_
      obtain ⟨n25, f25, hA25, hN25, hM25, hv25⟩ := WT_arrR hW id rfl hb22
      obtain rfl := hM25 16 rfl
      clear hN25 hM25
      refine J_alen dX6_walk_25 hA25 rfl rfl ?_
      have he25 : jEq (Int32.ofNat 16).toInt 16 := nI_toInt (by decide)
      generalize Int32.ofNat 16 = y25 at he25 ⊢
      refine Jz_icmp_lt (tgt := 32) jEq.rf he25 dX6_walk_26 (by decide) (fun c26 => ?_) (fun c26 => ?_)
      · exact False.elim (by omega)
      · refine Jz_bipush (-4) dX6_walk_29 (by decide) (fun y29 he29 => ?_)
        exact J_ret (r := some (.int _)) dX6_walk_31 ⟨rfl, _, rfl, rfl⟩ (⟨⟨_, rfl, (j_rng _).1, (j_rng _).2, (by (try simp only [he29.eq, true_and, and_true]) <;> omega)⟩, rfl⟩)
  · refine Jz_bipush (-2) dX6_walk_7 (by decide) (fun y7 he7 => ?_)
    exact J_ret (r := some (.int _)) dX6_walk_9 ⟨rfl, _, rfl, rfl⟩ (⟨⟨_, rfl, (j_rng _).1, (j_rng _).2, (by (try simp only [he7.eq, true_and, and_true]) <;> omega)⟩, rfl⟩)
set_option maxRecDepth 100000 in
set_option maxHeartbeats 8000000 in
theorem w_X2_numberOf_z {tS : jTS} (d : Nat) (V0 : jH) (x0 : Int32) (x1 : Int32) (hd : 0 ≤ d)  (hp0 : 0 ≤ x0.toInt) (hp1 : x0.toInt ≤ 5) (hp2 : 0 ≤ x1.toInt) (hp3 : x1.toInt ≤ 5) : jTot tS mX2_numberOf d [.int x0, .int x1] V0 0 0 (fun r V => (fun r _ => ∃ y : Int32, r = some (.int y) ∧ ((-2147483648) ≤ y.toInt) ∧ (y.toInt ≤ 2147483647) ∧ (y.toInt = 9 + x0.toInt + 8 * x1.toInt)) r V ∧ V = V0) := by
  refine jTot.of_J [some (.int x0), some (.int x1)] moX2_numberOf (Nat.le_of_ble_eq_true rfl) rfl ?_
  have hrx0 := j_rng x0
  have hrx1 := j_rng x1
  refine Jz_bipush 9 dX2_numberOf_0 (by decide) (fun y0 he0 => ?_)
  refine J_iload_n dX2_numberOf_2 rfl ?_
  refine Jz_iadd he0 jEq.rf dX2_numberOf_3 (by omega) (by omega) (fun y3 he3 => ?_)
  refine Jz_bipush 8 dX2_numberOf_4 (by decide) (fun y4 he4 => ?_)
  refine J_iload_n dX2_numberOf_6 rfl ?_
  refine Jz_imul he4 jEq.rf dX2_numberOf_7 (by omega) (by omega) (fun y7 he7 => ?_)
  refine Jz_iadd he3 he7 dX2_numberOf_8 (by omega) (by omega) (fun y8 he8 => ?_)
  exact J_ret (r := some (.int _)) dX2_numberOf_9 ⟨rfl, _, rfl, rfl⟩ (⟨⟨_, rfl, (j_rng _).1, (j_rng _).2, (by (try simp only [he8.eq, true_and, and_true]) <;> omega)⟩, rfl⟩)
set_option maxRecDepth 100000 in
set_option maxHeartbeats 8000000 in
theorem w_X2_bitOf_z {tS : jTS} (d : Nat) (V0 : jH) (x0 : Int32) (x1 : Int32) (hd : 1 ≤ d)  (hp0 : 0 ≤ x0.toInt) (hp1 : x0.toInt ≤ 5) (hp2 : 0 ≤ x1.toInt) (hp3 : x1.toInt ≤ 5) : jTot tS mX2_bitOf d [.int x0, .int x1] V0 0 0 (fun r V => (fun r _ => ∃ y : Int64, r = some (.long y) ∧ (∀ n : Nat, jbt y n = decide ((n : Int) = 9 + x0.toInt + 8 * x1.toInt))) r V ∧ V = V0) := by
  refine jTot.of_J [some (.int x0), some (.int x1)] moX2_bitOf (Nat.le_of_ble_eq_true rfl) rfl ?_
  have hrx0 := j_rng x0
  have hrx1 := j_rng x1
  refine J_lconst (v := 1) dX2_bitOf_0 rfl ?_
  refine J_iload_n dX2_bitOf_1 rfl ?_
  refine J_iload_n dX2_bitOf_2 rfl ?_
  refine J_callS2 moX2_numberOf jw_ml_X2_50 jw_st_X2_numberOf dX2_bitOf_3 (w_X2_numberOf_z (d - 1) _ x0 x1 (by omega)   (by omega) (by omega) (by omega) (by omega)) (by omega) (Nat.zero_le _) (Nat.zero_le _) (Nat.le_of_ble_eq_true rfl) (fun r3 V3 h3 => ?_)
  obtain ⟨⟨y3, rfl, hl3, hh3, hP3_0⟩, hE3⟩ := h3
  have hE3 := hE3.symm
  subst hE3
  clear hl3 hh3
  have hz3 : jEq y3.toInt (9 + (x0.toInt) + 8 * (x1.toInt)) := hP3_0
  clear hP3_0
  refine J_lshl dX2_bitOf_6 rfl ?_
  exact J_ret (r := some (.long _)) dX2_bitOf_7 ⟨rfl, rfl⟩ (⟨⟨_, rfl, (fun n => by rw [jbt_shl (by rw [hz3.eq]; omega) (by rw [hz3.eq]; omega), hz3.eq])⟩, rfl⟩)
set_option maxRecDepth 100000 in
set_option maxHeartbeats 8000000 in
theorem w_X2_isHole_z {tS : jTS} (d : Nat) (V0 : jH) (a0 : Nat) (x1 : Int32) (x2 : Int32) (op : Int64) (hd : 2 ≤ d) (hW : WT V0) (ha0 : jis V0 (.inr 0) a0) (hq_op : jfL V0 a0 0 3 op) (hp0 : 0 ≤ x1.toInt) (hp1 : x1.toInt ≤ 5) (hp2 : 0 ≤ x2.toInt) (hp3 : x2.toInt ≤ 5) : jTot tS mX2_isHole d [.ref a0, .int x1, .int x2] V0 0 0 (fun r V => (fun r _ => ∃ y : Int32, r = some (.int y) ∧ (0 ≤ y.toInt) ∧ (y.toInt ≤ 1) ∧ (jIf y 1 (jbt op (9 + x1.toInt + 8 * x2.toInt).toNat = false)) ∧ (jIf y 0 (jbt op (9 + x1.toInt + 8 * x2.toInt).toNat = true))) r V ∧ V = V0) := by
  refine jTot.of_J [some (.ref a0), some (.int x1), some (.int x2)] moX2_isHole (Nat.le_of_ble_eq_true rfl) rfl ?_
  have hrx1 := j_rng x1
  have hrx2 := j_rng x2
  have he : jeff [] V0 V0 := jeff.refl _ _
  obtain ⟨fs_a0, hO_a0, hK_a0⟩ := WT_obj hW id ha0
  have hF_op := hq_op.get hO_a0
  refine J_aload_n dX2_isHole_0 rfl ?_
  refine J_get jf_X2_22 dX2_isHole_1 hO_a0 hF_op ?_
  refine J_iload_n dX2_isHole_4 rfl ?_
  refine J_iload_n dX2_isHole_5 rfl ?_
  refine J_callS2 moX2_bitOf jw_ml_X2_46 jw_st_X2_bitOf dX2_isHole_6 (w_X2_bitOf_z (d - 1) _ x1 x2 (by omega)   (by omega) (by omega) (by omega) (by omega)) (by omega) (Nat.zero_le _) (Nat.zero_le _) (Nat.le_of_ble_eq_true rfl) (fun r6 V6 h6 => ?_)
  obtain ⟨⟨y6, rfl, hP6_0⟩, hE6⟩ := h6
  have hE6 := hE6.symm
  subst hE6
  refine J_land dX2_isHole_9 ?_
  refine J_lconst (v := 0) dX2_isHole_10 rfl ?_
  refine Jz_lcmp dX2_isHole_11 (fun y11 he11 => ?_)
  refine Jz_if_ne (tgt := 19) jEq.rf dX2_isHole_12 (by decide) (fun c12 => ?_) (fun c12 => ?_)
  · refine Jz_iconst 0 dX2_isHole_19 (by decide) (fun y19 he19 => ?_)
    exact J_ret (r := some (.int _)) dX2_isHole_20 ⟨rfl, _, rfl, (nar_b (by (try simp only [he19.eq, true_and, and_true]) <;> omega) (by (try simp only [he19.eq, true_and, and_true]) <;> omega))⟩ (⟨⟨_, rfl, (by (try simp only [he19.eq, true_and, and_true]) <;> omega), (by (try simp only [he19.eq, true_and, and_true]) <;> omega), (fun h => by rw [he19.eq] at h; omega), (fun _ => Eq.mp (Bool.not_eq_false _) (fun q => c12 (he11.mpr ((jbt_one (show ∀ n : Nat, jbt y6 n = decide (n = (9 + x1.toInt + 8 * x2.toInt).toNat) from fun n => (hP6_0 n).trans (decide_eq_decide.mpr (by omega)))).mpr q))))⟩, rfl⟩)
  · refine Jz_iconst 1 dX2_isHole_15 (by decide) (fun y15 he15 => ?_)
    refine J_goto (tgt := 20) dX2_isHole_16 (by decide) ?_
    exact J_ret (r := some (.int _)) dX2_isHole_20 ⟨rfl, _, rfl, (nar_b (by (try simp only [he15.eq, true_and, and_true]) <;> omega) (by (try simp only [he15.eq, true_and, and_true]) <;> omega))⟩ (⟨⟨_, rfl, (by (try simp only [he15.eq, true_and, and_true]) <;> omega), (by (try simp only [he15.eq, true_and, and_true]) <;> omega), (fun _ => (jbt_one (show ∀ n : Nat, jbt y6 n = decide (n = (9 + x1.toInt + 8 * x2.toInt).toNat) from fun n => (hP6_0 n).trans (decide_eq_decide.mpr (by omega)))).mp (he11.mp c12)), (fun h => by rw [he15.eq] at h; omega)⟩, rfl⟩)
set_option maxRecDepth 100000 in
set_option maxHeartbeats 8000000 in
theorem w_X2_turnOver_z {tS : jTS} (d : Nat) (V0 : jH) (a0 : Nat) (x1 : Int32) (x2 : Int32) (op : Int64) (hd : 2 ≤ d) (hW : WT V0) (ha0 : jis V0 (.inr 0) a0) (hq_op : jfL V0 a0 0 3 op) (hp0 : 0 ≤ x1.toInt) (hp1 : x1.toInt ≤ 5) (hp2 : 0 ≤ x2.toInt) (hp3 : x2.toInt ≤ 5) : jTot tS mX2_turnOver d [.ref a0, .int x1, .int x2] V0 0 0 (fun r V => (jPost [.inr 0] V0 rV) r V ∧ (∃ op2 : Int64, jfL V a0 0 3 op2 ∧ ∀ n : Nat, jbt op2 n = (jbt op n ^^ decide (n = (9 + x1.toInt + 8 * x2.toInt).toNat))) ∧ jkc 0 [1, 2] V0 V) := by
  refine jTot.of_J [some (.ref a0), some (.int x1), some (.int x2)] moX2_turnOver (Nat.le_of_ble_eq_true rfl) rfl ?_
  have hrx1 := j_rng x1
  have hrx2 := j_rng x2
  have he : jeff [.inr 0] V0 V0 := jeff.refl _ _
  have hkp : jkc 0 [1, 2] V0 V0 := jkc.rf
  obtain ⟨fs_a0, hO_a0, hK_a0⟩ := WT_obj hW id ha0
  have hF_op := hq_op.get hO_a0
  refine J_aload_n dX2_turnOver_0 rfl ?_
  refine J_dup dX2_turnOver_1 rfl ?_
  refine J_get jf_X2_22 dX2_turnOver_2 hO_a0 hF_op ?_
  refine J_iload_n dX2_turnOver_5 rfl ?_
  refine J_iload_n dX2_turnOver_6 rfl ?_
  refine J_callS2 moX2_bitOf jw_ml_X2_46 jw_st_X2_bitOf dX2_turnOver_7 (w_X2_bitOf_z (d - 1) _ x1 x2 (by omega)   (by omega) (by omega) (by omega) (by omega)) (by omega) (Nat.zero_le _) (Nat.zero_le _) (Nat.le_of_ble_eq_true rfl) (fun r7 V7 h7 => ?_)
  obtain ⟨⟨y7, rfl, hP7_0⟩, hE7⟩ := h7
  have hE7 := hE7.symm
  subst hE7
  refine J_lxor dX2_turnOver_10 ?_
  refine Jz_putL hO_a0 hW id rfl jf_X2_22 jt_X2_3 dX2_turnOver_11 rfl rfl (fun V11 fs11 hW hx11 hO11 hS11 hT11 hB11 => ?_)
  have hK11 : jokO _ (jFs 0) fs11 := hW _ _ id hO11
  have he := he.trans (hx11.sub (jsub_of rfl))
  have hkp := hkp.trans (jkc.put hO_a0 hO11 hT11 hB11 (by decide))
  have ha0 := ha0.mono hx11.1
  refine J_aload_n dX2_turnOver_14 rfl ?_
  refine Jz_iconst 0 dX2_turnOver_15 (by decide) (fun y15 he15 => ?_)
  refine Jz_putI hO11 hW id rfl jf_X2_35 jt_X2_7 he15 dX2_turnOver_16 (by omega) (by omega) (fun _ h => ⟨nar_b (by omega) (by omega), fit_b (by omega) (by omega)⟩) (fun V16 fs16 hW hx16 hO16 hS16 hT16 hB16 => ?_)
  have hK16 : jokO _ (jFs 0) fs16 := hW _ _ id hO16
  have hF16_3 := (hT16 3 (by decide)).trans hS11
  have he := he.trans (hx16.sub (jsub_of rfl))
  have hkp := hkp.trans (jkc.put hO11 hO16 hT16 hB16 (by decide))
  have ha0 := ha0.mono hx16.1
  exact J_ret (r := none) dX2_turnOver_19 ⟨rfl, rfl⟩ (⟨⟨hW, he, rfl⟩, ⟨_, ⟨_, hO16, hF16_3⟩, fun n => by rw [jbt_xor, hP7_0 n]; exact congrArg _ (decide_eq_decide.mpr (by omega))⟩, hkp⟩)
set_option maxRecDepth 100000 in
set_option maxHeartbeats 8000000 in
theorem w_X2_isCorner_z {tS : jTS} (d : Nat) (V0 : jH) (a0 : Nat) (x1 : Int32) (x2 : Int32) (w1 : Int32) (h1 : Int32) (hd : 0 ≤ d) (hW : WT V0) (ha0 : jis V0 (.inr 0) a0) (hf_w1 : jfI V0 a0 0 1 w1) (hf_h1 : jfI V0 a0 0 2 h1) (hp0 : 2 ≤ w1.toInt) (hp1 : 2 ≤ h1.toInt) : jTot tS mX2_isCorner d [.ref a0, .int x1, .int x2] V0 0 0 (fun r V => (fun r _ => ∃ y : Int32, r = some (.int y) ∧ (0 ≤ y.toInt) ∧ (y.toInt ≤ 1) ∧ ((y.toInt = 1 ∧ (x1.toInt = 0 ∧ x2.toInt = 0 ∨ x1.toInt = w1.toInt - 1 ∧ x2.toInt = h1.toInt - 1)) ∨ (y.toInt = 0 ∧ ¬ (x1.toInt = 0 ∧ x2.toInt = 0 ∨ x1.toInt = w1.toInt - 1 ∧ x2.toInt = h1.toInt - 1)))) r V ∧ V = V0) := by
  refine jTot.of_J [some (.ref a0), some (.int x1), some (.int x2)] moX2_isCorner (Nat.le_of_ble_eq_true rfl) rfl ?_
  have hrx1 := j_rng x1
  have hrx2 := j_rng x2
  have he : jeff [] V0 V0 := jeff.refl _ _
  obtain ⟨fs_a0, hO_a0, hK_a0⟩ := WT_obj hW id ha0
  have hF_w1 := hf_w1.get hO_a0
  have hrw1 : (-2147483648) ≤ w1.toInt ∧ w1.toInt ≤ 2147483647 := jok_rngI hK_a0 rfl hF_w1
  have hF_h1 := hf_h1.get hO_a0
  have hrh1 : (-2147483648) ≤ h1.toInt ∧ h1.toInt ≤ 2147483647 := jok_rngI hK_a0 rfl hF_h1
  refine J_iload_n dX2_isCorner_0 rfl ?_
  refine Jz_if_ne (tgt := 8) jEq.rf dX2_isCorner_1 (by decide) (fun c1 => ?_) (fun c1 => ?_)
  · refine J_iload_n dX2_isCorner_8 rfl ?_
    refine J_aload_n dX2_isCorner_9 rfl ?_
    refine J_get jf_X2_15 dX2_isCorner_10 hO_a0 hF_w1 ?_
    refine Jz_iconst 1 dX2_isCorner_13 (by decide) (fun y13 he13 => ?_)
    refine Jz_isub jEq.rf he13 dX2_isCorner_14 (by omega) (by omega) (fun y14 he14 => ?_)
    refine Jz_icmp_ne (tgt := 32) jEq.rf he14 dX2_isCorner_15 (by decide) (fun c15 => ?_) (fun c15 => ?_)
    · refine Jz_iconst 0 dX2_isCorner_32 (by decide) (fun y32 he32 => ?_)
      exact J_ret (r := some (.int _)) dX2_isCorner_33 ⟨rfl, _, rfl, (nar_b (by (try simp only [he32.eq, true_and, and_true]) <;> omega) (by (try simp only [he32.eq, true_and, and_true]) <;> omega))⟩ (⟨⟨_, rfl, (by (try simp only [he32.eq, true_and, and_true]) <;> omega), (by (try simp only [he32.eq, true_and, and_true]) <;> omega), (by (try simp only [he32.eq, true_and, and_true]) <;> omega)⟩, rfl⟩)
    · refine J_iload_n dX2_isCorner_18 rfl ?_
      refine J_aload_n dX2_isCorner_19 rfl ?_
      refine J_get jf_X2_19 dX2_isCorner_20 hO_a0 hF_h1 ?_
      refine Jz_iconst 1 dX2_isCorner_23 (by decide) (fun y23 he23 => ?_)
      refine Jz_isub jEq.rf he23 dX2_isCorner_24 (by omega) (by omega) (fun y24 he24 => ?_)
      refine Jz_icmp_ne (tgt := 32) jEq.rf he24 dX2_isCorner_25 (by decide) (fun c25 => ?_) (fun c25 => ?_)
      · refine Jz_iconst 0 dX2_isCorner_32 (by decide) (fun y32 he32 => ?_)
        exact J_ret (r := some (.int _)) dX2_isCorner_33 ⟨rfl, _, rfl, (nar_b (by (try simp only [he32.eq, true_and, and_true]) <;> omega) (by (try simp only [he32.eq, true_and, and_true]) <;> omega))⟩ (⟨⟨_, rfl, (by (try simp only [he32.eq, true_and, and_true]) <;> omega), (by (try simp only [he32.eq, true_and, and_true]) <;> omega), (by (try simp only [he32.eq, true_and, and_true]) <;> omega)⟩, rfl⟩)
      · refine Jz_iconst 1 dX2_isCorner_28 (by decide) (fun y28 he28 => ?_)
        refine J_goto (tgt := 33) dX2_isCorner_29 (by decide) ?_
        exact J_ret (r := some (.int _)) dX2_isCorner_33 ⟨rfl, _, rfl, (nar_b (by (try simp only [he28.eq, true_and, and_true]) <;> omega) (by (try simp only [he28.eq, true_and, and_true]) <;> omega))⟩ (⟨⟨_, rfl, (by (try simp only [he28.eq, true_and, and_true]) <;> omega), (by (try simp only [he28.eq, true_and, and_true]) <;> omega), (by (try simp only [he28.eq, true_and, and_true]) <;> omega)⟩, rfl⟩)
  · refine J_iload_n dX2_isCorner_4 rfl ?_
    refine Jz_if_eq (tgt := 28) jEq.rf dX2_isCorner_5 (by decide) (fun c5 => ?_) (fun c5 => ?_)
    · refine Jz_iconst 1 dX2_isCorner_28 (by decide) (fun y28 he28 => ?_)
      refine J_goto (tgt := 33) dX2_isCorner_29 (by decide) ?_
      exact J_ret (r := some (.int _)) dX2_isCorner_33 ⟨rfl, _, rfl, (nar_b (by (try simp only [he28.eq, true_and, and_true]) <;> omega) (by (try simp only [he28.eq, true_and, and_true]) <;> omega))⟩ (⟨⟨_, rfl, (by (try simp only [he28.eq, true_and, and_true]) <;> omega), (by (try simp only [he28.eq, true_and, and_true]) <;> omega), (by (try simp only [he28.eq, true_and, and_true]) <;> omega)⟩, rfl⟩)
    · refine J_iload_n dX2_isCorner_8 rfl ?_
      refine J_aload_n dX2_isCorner_9 rfl ?_
      refine J_get jf_X2_15 dX2_isCorner_10 hO_a0 hF_w1 ?_
      refine Jz_iconst 1 dX2_isCorner_13 (by decide) (fun y13 he13 => ?_)
      refine Jz_isub jEq.rf he13 dX2_isCorner_14 (by omega) (by omega) (fun y14 he14 => ?_)
      refine Jz_icmp_ne (tgt := 32) jEq.rf he14 dX2_isCorner_15 (by decide) (fun c15 => ?_) (fun c15 => ?_)
      · refine Jz_iconst 0 dX2_isCorner_32 (by decide) (fun y32 he32 => ?_)
        exact J_ret (r := some (.int _)) dX2_isCorner_33 ⟨rfl, _, rfl, (nar_b (by (try simp only [he32.eq, true_and, and_true]) <;> omega) (by (try simp only [he32.eq, true_and, and_true]) <;> omega))⟩ (⟨⟨_, rfl, (by (try simp only [he32.eq, true_and, and_true]) <;> omega), (by (try simp only [he32.eq, true_and, and_true]) <;> omega), (by (try simp only [he32.eq, true_and, and_true]) <;> omega)⟩, rfl⟩)
      · refine J_iload_n dX2_isCorner_18 rfl ?_
        refine J_aload_n dX2_isCorner_19 rfl ?_
        refine J_get jf_X2_19 dX2_isCorner_20 hO_a0 hF_h1 ?_
        refine Jz_iconst 1 dX2_isCorner_23 (by decide) (fun y23 he23 => ?_)
        refine Jz_isub jEq.rf he23 dX2_isCorner_24 (by omega) (by omega) (fun y24 he24 => ?_)
        refine Jz_icmp_ne (tgt := 32) jEq.rf he24 dX2_isCorner_25 (by decide) (fun c25 => ?_) (fun c25 => ?_)
        · refine Jz_iconst 0 dX2_isCorner_32 (by decide) (fun y32 he32 => ?_)
          exact J_ret (r := some (.int _)) dX2_isCorner_33 ⟨rfl, _, rfl, (nar_b (by (try simp only [he32.eq, true_and, and_true]) <;> omega) (by (try simp only [he32.eq, true_and, and_true]) <;> omega))⟩ (⟨⟨_, rfl, (by (try simp only [he32.eq, true_and, and_true]) <;> omega), (by (try simp only [he32.eq, true_and, and_true]) <;> omega), (by (try simp only [he32.eq, true_and, and_true]) <;> omega)⟩, rfl⟩)
        · refine Jz_iconst 1 dX2_isCorner_28 (by decide) (fun y28 he28 => ?_)
          refine J_goto (tgt := 33) dX2_isCorner_29 (by decide) ?_
          exact J_ret (r := some (.int _)) dX2_isCorner_33 ⟨rfl, _, rfl, (nar_b (by (try simp only [he28.eq, true_and, and_true]) <;> omega) (by (try simp only [he28.eq, true_and, and_true]) <;> omega))⟩ (⟨⟨_, rfl, (by (try simp only [he28.eq, true_and, and_true]) <;> omega), (by (try simp only [he28.eq, true_and, and_true]) <;> omega), (by (try simp only [he28.eq, true_and, and_true]) <;> omega)⟩, rfl⟩)
set_option maxRecDepth 100000 in
set_option maxHeartbeats 8000000 in
theorem w_X2_lay_z {tS : jTS} (d : Nat) (V0 : jH) {p : Nat → Prop} (a0 : Nat) (x1 : Int32) (x2 : Int32) (hd : 2 ≤ d) (hW : WTx p V0) (hnp : ¬ p a0) (ha0 : jis V0 (.inr 0) a0) (hp0 : 2 ≤ x1.toInt) (hp1 : x1.toInt ≤ 6) (hp2 : 2 ≤ x2.toInt) (hp3 : x2.toInt ≤ 6) : jTot tS mX2_lay d [.ref a0, .int x1, .int x2] V0 0 0 (fun r V => (jPostP p [.inr 0] V0 rV) r V ∧ (∃ op2 : Int64, jfL V a0 0 3 op2 ∧ ∀ n : Nat, jbt op2 n = true ↔ ∃ x y : Nat, ((x : Int) < x1.toInt ∧ (y : Int) < x2.toInt) ∧ n = 9 + x + 8 * y) ∧ (∃ w1 : Int32, jfI V a0 0 1 w1 ∧ (w1.toInt = x1.toInt)) ∧ (∃ h1 : Int32, jfI V a0 0 2 h1 ∧ (h1.toInt = x2.toInt))) := by
  refine jTot.of_J [some (.ref a0), some (.int x1), some (.int x2), none, none] moX2_lay (Nat.le_of_ble_eq_true rfl) rfl ?_
  have hrx1 := j_rng x1
  have hrx2 := j_rng x2
  have he : jeff [.inr 0] V0 V0 := jeff.refl _ _
  refine J_aload_n dX2_lay_0 rfl ?_
  refine J_iload_n dX2_lay_1 rfl ?_
  obtain ⟨fs2o, hO2o, hK2o⟩ := WT_obj hW hnp ha0
  refine Jz_putI hO2o hW hnp rfl jf_X2_15 jt_X2_1 jEq.rf dX2_lay_2 (j_rng _).1 (j_rng _).2 (fun _ _ => ⟨rfl, rfl⟩) (fun V2 fs2 hW hx2 hO2 hS2 hT2 hB2 => ?_)
  have hK2 : jokO _ (jFs 0) fs2 := hW _ _ hnp hO2
  have he := he.trans (hx2.sub (jsub_of rfl))
  have ha0 := ha0.mono hx2.1
  refine J_aload_n dX2_lay_5 rfl ?_
  refine J_iload_n dX2_lay_6 rfl ?_
  refine Jz_putI hO2 hW hnp rfl jf_X2_19 jt_X2_2 jEq.rf dX2_lay_7 (j_rng _).1 (j_rng _).2 (fun _ _ => ⟨rfl, rfl⟩) (fun V7 fs7 hW hx7 hO7 hS7 hT7 hB7 => ?_)
  have hK7 : jokO _ (jFs 0) fs7 := hW _ _ hnp hO7
  have hF7_1 := (hT7 1 (by decide)).trans hS2
  have he := he.trans (hx7.sub (jsub_of rfl))
  have ha0 := ha0.mono hx7.1
  refine J_aload_n dX2_lay_10 rfl ?_
  refine J_lconst (v := 0) dX2_lay_11 rfl ?_
  refine Jz_putL hO7 hW hnp rfl jf_X2_22 jt_X2_3 dX2_lay_12 rfl rfl (fun V12 fs12 hW hx12 hO12 hS12 hT12 hB12 => ?_)
  have hK12 : jokO _ (jFs 0) fs12 := hW _ _ hnp hO12
  have hF12_2 := (hT12 2 (by decide)).trans hS7
  have hF12_1 := (hT12 1 (by decide)).trans hF7_1
  have he := he.trans (hx12.sub (jsub_of rfl))
  have ha0 := ha0.mono hx12.1
  refine Jz_iconst 0 dX2_lay_15 (by decide) (fun y15 he15 => ?_)
  refine J_istore_n dX2_lay_16 rfl (by decide) ?_
  have L17 : ∀ (N : Nat) (V : jH) (i3n17 : Int32) (gs17a0 : List Value) (g3n17 : Int64), WTx p V → jeff [.inr 0] V0 V → (jis V (.inr 0) a0) → (V a0 = some (.inr (0, gs17a0))) → (gs17a0[3]? = some (.long g3n17)) → (gs17a0[2]? = some (.int x2)) → (gs17a0[1]? = some (.int x1)) → (0 ≤ i3n17.toInt ∧ i3n17.toInt ≤ x2.toInt) → (∀ n : Nat, jbt g3n17 n = true ↔ ∃ x y : Nat, ((x : Int) < x1.toInt ∧ (y : Int) < i3n17.toInt) ∧ n = 9 + x + 8 * y) → (300 - i3n17.toInt).toNat < N → J tS mX2_lay d 17 [some (.ref a0), some (.int x1), some (.int x2), some (.int i3n17), none] [] V 0 0 (fun r V => (jPostP p [.inr 0] V0 rV) r V ∧ (∃ op2 : Int64, jfL V a0 0 3 op2 ∧ ∀ n : Nat, jbt op2 n = true ↔ ∃ x y : Nat, ((x : Int) < x1.toInt ∧ (y : Int) < x2.toInt) ∧ n = 9 + x + 8 * y) ∧ (∃ w1 : Int32, jfI V a0 0 1 w1 ∧ (w1.toInt = x1.toInt)) ∧ (∃ h1 : Int32, jfI V a0 0 2 h1 ∧ (h1.toInt = x2.toInt))) := by
    intro N
    induction N with
    | zero => intro V i3n17 gs17a0 g3n17 hW he ha0 hOgs17a0 hFgs17a0_3 hFgs17a0_2 hFgs17a0_1 hi3 hb hm; exact absurd hm (Nat.not_lt_zero _)
    | succ N ih =>
      intro V i3n17 gs17a0 g3n17 hW he ha0 hOgs17a0 hFgs17a0_3 hFgs17a0_2 hFgs17a0_1 hi3 hb hm
      have ih17 := ih
      have hri3 := j_rng i3n17
      have hKgs17a0 : jokO V (jFs 0) gs17a0 := hW _ _ hnp hOgs17a0
      refine J_iload_n dX2_lay_17 rfl ?_
      refine J_aload_n dX2_lay_18 rfl ?_
      refine J_get jf_X2_19 dX2_lay_19 hOgs17a0 hFgs17a0_2 ?_
      refine Jz_icmp_ge (tgt := 64) jEq.rf jEq.rf dX2_lay_22 (by decide) (fun c22 => ?_) (fun c22 => ?_)
      · refine J_aload_n dX2_lay_64 rfl ?_
        refine Jz_iconst 0 dX2_lay_65 (by decide) (fun y65 he65 => ?_)
        refine Jz_putI hOgs17a0 hW hnp rfl jf_X2_35 jt_X2_7 he65 dX2_lay_66 (by omega) (by omega) (fun _ h => ⟨nar_b (by omega) (by omega), fit_b (by omega) (by omega)⟩) (fun V66 fs66 hW hx66 hO66 hS66 hT66 hB66 => ?_)
        have hK66 : jokO _ (jFs 0) fs66 := hW _ _ hnp hO66
        have hF66_3 := (hT66 3 (by decide)).trans hFgs17a0_3
        have hF66_2 := (hT66 2 (by decide)).trans hFgs17a0_2
        have hF66_1 := (hT66 1 (by decide)).trans hFgs17a0_1
        have he := he.trans (hx66.sub (jsub_of rfl))
        have ha0 := ha0.mono hx66.1
        exact J_ret (r := none) dX2_lay_69 ⟨rfl, rfl⟩ (⟨⟨hW, he, rfl⟩, ⟨_, ⟨_, hO66, hF66_3⟩, fun n => (hb n).trans ⟨fun ⟨x, y, q, e⟩ => ⟨x, y, by omega, e⟩, fun ⟨x, y, q, e⟩ => ⟨x, y, by omega, e⟩⟩⟩, ⟨_, ⟨_, hO66, hF66_1⟩, (by omega)⟩, ⟨_, ⟨_, hO66, hF66_2⟩, (by omega)⟩⟩)
      · refine Jz_iconst 0 dX2_lay_25 (by decide) (fun y25 he25 => ?_)
        refine J_istore dX2_lay_26 rfl (by decide) ?_
        have L28 : ∀ (N : Nat) (V : jH) (i4n28 : Int32) (gs28a0 : List Value) (g3n28 : Int64), WTx p V → jeff [.inr 0] V0 V → (jis V (.inr 0) a0) → (V a0 = some (.inr (0, gs28a0))) → (gs28a0[3]? = some (.long g3n28)) → (gs28a0[2]? = some (.int x2)) → (gs28a0[1]? = some (.int x1)) → (0 ≤ i4n28.toInt ∧ i4n28.toInt ≤ x1.toInt) → (∀ n : Nat, jbt g3n28 n = true ↔ ∃ x y : Nat, ((x : Int) < x1.toInt ∧ (y : Int) < i3n17.toInt ∨ (y : Int) = i3n17.toInt ∧ (x : Int) < i4n28.toInt) ∧ n = 9 + x + 8 * y) → (300 - i4n28.toInt).toNat < N → J tS mX2_lay d 28 [some (.ref a0), some (.int x1), some (.int x2), some (.int i3n17), some (.int i4n28)] [] V 0 0 (fun r V => (jPostP p [.inr 0] V0 rV) r V ∧ (∃ op2 : Int64, jfL V a0 0 3 op2 ∧ ∀ n : Nat, jbt op2 n = true ↔ ∃ x y : Nat, ((x : Int) < x1.toInt ∧ (y : Int) < x2.toInt) ∧ n = 9 + x + 8 * y) ∧ (∃ w1 : Int32, jfI V a0 0 1 w1 ∧ (w1.toInt = x1.toInt)) ∧ (∃ h1 : Int32, jfI V a0 0 2 h1 ∧ (h1.toInt = x2.toInt))) := by
          intro N
          induction N with
          | zero => intro V i4n28 gs28a0 g3n28 hW he ha0 hOgs28a0 hFgs28a0_3 hFgs28a0_2 hFgs28a0_1 hi4 hb2 hm; exact absurd hm (Nat.not_lt_zero _)
          | succ N ih =>
            intro V i4n28 gs28a0 g3n28 hW he ha0 hOgs28a0 hFgs28a0_3 hFgs28a0_2 hFgs28a0_1 hi4 hb2 hm
            have ih28 := ih
            have hri4 := j_rng i4n28
            have hKgs28a0 : jokO V (jFs 0) gs28a0 := hW _ _ hnp hOgs28a0
            refine J_iload dX2_lay_28 rfl ?_
            refine J_aload_n dX2_lay_30 rfl ?_
            refine J_get jf_X2_15 dX2_lay_31 hOgs28a0 hFgs28a0_1 ?_
            refine Jz_icmp_ge (tgt := 58) jEq.rf jEq.rf dX2_lay_34 (by decide) (fun c34 => ?_) (fun c34 => ?_)
            · refine Jz_iinc 1 dX2_lay_58 rfl rfl (by decide) jEq.rf (by decide) (by omega) (by omega) (fun y58 he58 => ?_)
              refine J_goto (tgt := 17) dX2_lay_61 (by decide) ?_
              refine J.mask [true, true, true, true, false] ?_
              exact ih17 _ y58 gs28a0 g3n28 hW he ha0 hOgs28a0 hFgs28a0_3 hFgs28a0_2 hFgs28a0_1 (by (try simp only [he58.eq, true_and, and_true]) <;> omega) (fun n => (hb2 n).trans ⟨fun ⟨x, y, q, e⟩ => ⟨x, y, by rw [he58.eq]; omega, e⟩, fun ⟨x, y, q, e⟩ => ⟨x, y, by rw [he58.eq] at q; omega, e⟩⟩) (by (try simp only [he58.eq, true_and, and_true]) <;> omega)
            · refine J_aload_n dX2_lay_37 rfl ?_
              refine J_dup dX2_lay_38 rfl ?_
              refine J_get jf_X2_22 dX2_lay_39 hOgs28a0 hFgs28a0_3 ?_
              refine J_iload dX2_lay_42 rfl ?_
              refine J_iload_n dX2_lay_44 rfl ?_
              refine J_callS2 moX2_bitOf jw_ml_X2_46 jw_st_X2_bitOf dX2_lay_45 (w_X2_bitOf_z (d - 1) _ i4n28 i3n17 (by omega)   (by omega) (by omega) (by omega) (by omega)) (by omega) (Nat.zero_le _) (Nat.zero_le _) (Nat.le_of_ble_eq_true rfl) (fun r45 V45 h45 => ?_)
              obtain ⟨⟨y45, rfl, hP45_0⟩, hE45⟩ := h45
              have hE45 := hE45.symm
              subst hE45
              refine J_lor dX2_lay_48 ?_
              refine Jz_putL hOgs28a0 hW hnp rfl jf_X2_22 jt_X2_3 dX2_lay_49 rfl rfl (fun V49 fs49 hW hx49 hO49 hS49 hT49 hB49 => ?_)
              have hK49 : jokO _ (jFs 0) fs49 := hW _ _ hnp hO49
              have hF49_2 := (hT49 2 (by decide)).trans hFgs28a0_2
              have hF49_1 := (hT49 1 (by decide)).trans hFgs28a0_1
              have he := he.trans (hx49.sub (jsub_of rfl))
              have ha0 := ha0.mono hx49.1
              refine Jz_iinc 1 dX2_lay_52 rfl rfl (by decide) jEq.rf (by decide) (by omega) (by omega) (fun y52 he52 => ?_)
              refine J_goto (tgt := 28) dX2_lay_55 (by decide) ?_
              refine J.mask [true, true, true, true, true] ?_
              exact ih28 _ y52 fs49 (g3n28 ||| y45) hW he ha0 hO49 hS49 hF49_2 hF49_1 (by (try simp only [he52.eq, true_and, and_true]) <;> omega) (fun n => by
   rw [jbt_or, hP45_0 n, Bool.or_eq_true, hb2 n, decide_eq_true_iff, he52.eq]
   constructor
   · rintro (⟨x, y, q, e⟩ | q)
     · exact ⟨x, y, by omega, e⟩
     · exact ⟨i4n28.toInt.toNat, i3n17.toInt.toNat, by omega, by omega⟩
   · rintro ⟨x, y, q, e⟩
     by_cases h9 : (n : Int) = 9 + i4n28.toInt + 8 * i3n17.toInt
     · exact Or.inr h9
     · exact Or.inl ⟨x, y, by omega, e⟩) (by (try simp only [he52.eq, true_and, and_true]) <;> omega)
        refine J.mask [true, true, true, true, true] ?_
        exact L28 _ _ y25 gs17a0 g3n17 hW he ha0 hOgs17a0 hFgs17a0_3 hFgs17a0_2 hFgs17a0_1 (by (try simp only [he25.eq, true_and, and_true]) <;> omega) (fun n => (hb n).trans ⟨fun ⟨x, y, q, e⟩ => ⟨x, y, Or.inl q, e⟩, fun ⟨x, y, q, e⟩ => ⟨x, y, by rw [he25.eq] at q; omega, e⟩⟩) (Nat.lt_succ_self _)
  refine J.mask [true, true, true, true, false] ?_
  exact L17 _ _ y15 fs12 (0 : Int64) hW he ha0 hO12 hS12 hF12_2 hF12_1 (by (try simp only [he15.eq, true_and, and_true]) <;> omega) (fun n => ⟨fun q => absurd q (by rw [jbt_zero]; decide), fun ⟨x, y, q, _⟩ => absurd q.2 (by rw [he15.eq]; omega)⟩) (Nat.lt_succ_self _)
set_option maxRecDepth 100000 in
set_option maxHeartbeats 8000000 in
theorem w_X6_hole_out {tS : jTS} (d : Nat) (V0 : jH) (a0 : Nat) (x1 : Int32) (x2 : Int32) (x3 : Int32) (pl : Nat) (pw : Int32) (ph : Int32) (po : Int64) (hd : 3 ≤ d) (hW : WT V0) (ha0 : jis V0 (.inr 4) a0) (hl3 : 0 ≤ x3.toInt) (hh3 : x3.toInt ≤ 1) (hr_pl : jfR V0 a0 4 6 pl) (hpw : jfI V0 pl 0 1 pw) (hph : jfI V0 pl 0 2 ph) (hpo : jfL V0 pl 0 3 po) (hp0 : 2 ≤ pw.toInt) (hp1 : pw.toInt ≤ 6) (hp2 : 2 ≤ ph.toInt) (hp3 : ph.toInt ≤ 6) (hp4 : ¬ (0 ≤ x1.toInt ∧ x1.toInt < pw.toInt ∧ 0 ≤ x2.toInt ∧ x2.toInt < ph.toInt)) : jTot tS mX6_hole d [.ref a0, .int x1, .int x2, .int x3] V0 0 0 (fun r V => (fun r _ => ∃ y : Int32, r = some (.int y) ∧ ((-2147483648) ≤ y.toInt) ∧ (y.toInt ≤ 2147483647) ∧ (y.toInt = -2)) r V ∧ V = V0) := by
  refine jTot.of_J [some (.ref a0), some (.int x1), some (.int x2), some (.int x3)] moX6_hole (Nat.le_of_ble_eq_true rfl) rfl ?_
  have hrx1 := j_rng x1
  have hrx2 := j_rng x2
  have he : jeff [] V0 V0 := jeff.refl _ _
  obtain ⟨fs_a0, hO_a0, hK_a0⟩ := WT_obj hW id ha0
  have hF_pl := hr_pl.get hO_a0
  obtain ⟨w_pl, hFq_pl, b_pl, hbq_pl, hb_pl⟩ := hK_a0.2 6 (.inr (some (.inr 0))) rfl
  cases hF_pl.symm.trans (hFq_pl.trans (congrArg some hbq_pl))
  obtain ⟨fsp, hOp, hKp⟩ := WT_obj hW id hb_pl
  have hFpw := hpw.get hOp
  have hFph := hph.get hOp
  have hFpo := hpo.get hOp
  refine J_iload_n dX6_hole_0 rfl ?_
  refine Jz_if_lt (tgt := 30) jEq.rf dX6_hole_1 (by decide) (fun c1 => ?_) (fun c1 => ?_)
  · refine Jz_bipush (-2) dX6_hole_30 (by decide) (fun y30 he30 => ?_)
    exact J_ret (r := some (.int _)) dX6_hole_32 ⟨rfl, _, rfl, rfl⟩ (⟨⟨_, rfl, (j_rng _).1, (j_rng _).2, (by (try simp only [he30.eq, true_and, and_true]) <;> omega)⟩, rfl⟩)
  · refine J_iload_n dX6_hole_4 rfl ?_
    refine J_aload_n dX6_hole_5 rfl ?_
    refine J_get jf_X6_42 dX6_hole_6 hO_a0 hF_pl ?_
    refine J_get jf_X6_205 dX6_hole_9 hOp hFpw ?_
    refine Jz_icmp_ge (tgt := 30) jEq.rf jEq.rf dX6_hole_12 (by decide) (fun c12 => ?_) (fun c12 => ?_)
    · refine Jz_bipush (-2) dX6_hole_30 (by decide) (fun y30 he30 => ?_)
      exact J_ret (r := some (.int _)) dX6_hole_32 ⟨rfl, _, rfl, rfl⟩ (⟨⟨_, rfl, (j_rng _).1, (j_rng _).2, (by (try simp only [he30.eq, true_and, and_true]) <;> omega)⟩, rfl⟩)
    · refine J_iload_n dX6_hole_15 rfl ?_
      refine Jz_if_lt (tgt := 30) jEq.rf dX6_hole_16 (by decide) (fun c16 => ?_) (fun c16 => ?_)
      · refine Jz_bipush (-2) dX6_hole_30 (by decide) (fun y30 he30 => ?_)
        exact J_ret (r := some (.int _)) dX6_hole_32 ⟨rfl, _, rfl, rfl⟩ (⟨⟨_, rfl, (j_rng _).1, (j_rng _).2, (by (try simp only [he30.eq, true_and, and_true]) <;> omega)⟩, rfl⟩)
      · refine J_iload_n dX6_hole_19 rfl ?_
        refine J_aload_n dX6_hole_20 rfl ?_
        refine J_get jf_X6_42 dX6_hole_21 hO_a0 hF_pl ?_
        refine J_get jf_X6_208 dX6_hole_24 hOp hFph ?_
        refine Jz_icmp_lt (tgt := 33) jEq.rf jEq.rf dX6_hole_27 (by decide) (fun c27 => ?_) (fun c27 => ?_)
        · exact False.elim (by omega)
        · refine Jz_bipush (-2) dX6_hole_30 (by decide) (fun y30 he30 => ?_)
          exact J_ret (r := some (.int _)) dX6_hole_32 ⟨rfl, _, rfl, rfl⟩ (⟨⟨_, rfl, (j_rng _).1, (j_rng _).2, (by (try simp only [he30.eq, true_and, and_true]) <;> omega)⟩, rfl⟩)
set_option maxRecDepth 100000 in
set_option maxHeartbeats 8000000 in
theorem w_X6_hole_same {tS : jTS} (d : Nat) (V0 : jH) (a0 : Nat) (x1 : Int32) (x2 : Int32) (x3 : Int32) (pl : Nat) (pw : Int32) (ph : Int32) (po : Int64) (hd : 3 ≤ d) (hW : WT V0) (ha0 : jis V0 (.inr 4) a0) (hl3 : 0 ≤ x3.toInt) (hh3 : x3.toInt ≤ 1) (hr_pl : jfR V0 a0 4 6 pl) (hpw : jfI V0 pl 0 1 pw) (hph : jfI V0 pl 0 2 ph) (hpo : jfL V0 pl 0 3 po) (hp0 : 2 ≤ pw.toInt) (hp1 : pw.toInt ≤ 6) (hp2 : 2 ≤ ph.toInt) (hp3 : ph.toInt ≤ 6) (hp4 : 0 ≤ x1.toInt ∧ x1.toInt < pw.toInt ∧ 0 ≤ x2.toInt ∧ x2.toInt < ph.toInt) (hp5 : jbt po (9 + x1.toInt + 8 * x2.toInt).toNat = decide (x3.toInt = 0) ∨ (x1.toInt = 0 ∧ x2.toInt = 0 ∨ x1.toInt = pw.toInt - 1 ∧ x2.toInt = ph.toInt - 1)) : jTot tS mX6_hole d [.ref a0, .int x1, .int x2, .int x3] V0 0 0 (fun r V => (fun r _ => ∃ y : Int32, r = some (.int y) ∧ ((-2147483648) ≤ y.toInt) ∧ (y.toInt ≤ 2147483647) ∧ (y.toInt = -3)) r V ∧ V = V0) := by
  refine jTot.of_J [some (.ref a0), some (.int x1), some (.int x2), some (.int x3)] moX6_hole (Nat.le_of_ble_eq_true rfl) rfl ?_
  have hrx1 := j_rng x1
  have hrx2 := j_rng x2
  have he : jeff [] V0 V0 := jeff.refl _ _
  obtain ⟨fs_a0, hO_a0, hK_a0⟩ := WT_obj hW id ha0
  have hF_pl := hr_pl.get hO_a0
  obtain ⟨w_pl, hFq_pl, b_pl, hbq_pl, hb_pl⟩ := hK_a0.2 6 (.inr (some (.inr 0))) rfl
  cases hF_pl.symm.trans (hFq_pl.trans (congrArg some hbq_pl))
  obtain ⟨fsp, hOp, hKp⟩ := WT_obj hW id hb_pl
  have hFpw := hpw.get hOp
  have hFph := hph.get hOp
  have hFpo := hpo.get hOp
  refine J_iload_n dX6_hole_0 rfl ?_
  refine Jz_if_lt (tgt := 30) jEq.rf dX6_hole_1 (by decide) (fun c1 => ?_) (fun c1 => ?_)
  · exact False.elim (by omega)
  · refine J_iload_n dX6_hole_4 rfl ?_
    refine J_aload_n dX6_hole_5 rfl ?_
    refine J_get jf_X6_42 dX6_hole_6 hO_a0 hF_pl ?_
    refine J_get jf_X6_205 dX6_hole_9 hOp hFpw ?_
    refine Jz_icmp_ge (tgt := 30) jEq.rf jEq.rf dX6_hole_12 (by decide) (fun c12 => ?_) (fun c12 => ?_)
    · exact False.elim (by omega)
    · refine J_iload_n dX6_hole_15 rfl ?_
      refine Jz_if_lt (tgt := 30) jEq.rf dX6_hole_16 (by decide) (fun c16 => ?_) (fun c16 => ?_)
      · exact False.elim (by omega)
      · refine J_iload_n dX6_hole_19 rfl ?_
        refine J_aload_n dX6_hole_20 rfl ?_
        refine J_get jf_X6_42 dX6_hole_21 hO_a0 hF_pl ?_
        refine J_get jf_X6_208 dX6_hole_24 hOp hFph ?_
        refine Jz_icmp_lt (tgt := 33) jEq.rf jEq.rf dX6_hole_27 (by decide) (fun c27 => ?_) (fun c27 => ?_)
        · refine J_aload_n dX6_hole_33 rfl ?_
          refine J_get jf_X6_42 dX6_hole_34 hO_a0 hF_pl ?_
          refine J_iload_n dX6_hole_37 rfl ?_
          refine J_iload_n dX6_hole_38 rfl ?_
          refine Jw_callV2 (q9 := (RX2, TX2, 9)) moX2_isHole jw_ml_X6_211 jw_im_X2_isHole jw_se_X2_isHole hb_pl rfl rfl dX6_hole_39 (w_X2_isHole_z (d - 1) _ pl x1 x2 po (by omega) hW  hb_pl ⟨_, hOp, hFpo⟩ (by omega) (by omega) (by omega) (by omega)) (by omega) (Nat.zero_le _) (Nat.zero_le _) (Nat.le_of_ble_eq_true rfl) (fun r39 V39 h39 => ?_)
          obtain ⟨⟨y39, rfl, hl39, hh39, hI39_0, hI39_1⟩, hE39⟩ := h39
          have hE39 := hE39.symm
          subst hE39
          refine J_iload_n dX6_hole_42 rfl ?_
          refine Jz_icmp_eq (tgt := 58) jEq.rf jEq.rf dX6_hole_43 (by decide) (fun c43 => ?_) (fun c43 => ?_)
          · refine Jz_bipush (-3) dX6_hole_58 (by decide) (fun y58 he58 => ?_)
            exact J_ret (r := some (.int _)) dX6_hole_60 ⟨rfl, _, rfl, rfl⟩ (⟨⟨_, rfl, (j_rng _).1, (j_rng _).2, (by (try simp only [he58.eq, true_and, and_true]) <;> omega)⟩, rfl⟩)
          · refine J_aload_n dX6_hole_46 rfl ?_
            refine J_get jf_X6_42 dX6_hole_47 hO_a0 hF_pl ?_
            refine J_iload_n dX6_hole_50 rfl ?_
            refine J_iload_n dX6_hole_51 rfl ?_
            refine Jw_callV2 (q9 := (RX2, TX2, 9)) moX2_isCorner jw_ml_X6_214 jw_im_X2_isCorner jw_se_X2_isCorner hb_pl rfl rfl dX6_hole_52 (w_X2_isCorner_z (d - 1) _ pl x1 x2 pw ph (by omega) hW  hb_pl ⟨_, hOp, hFpw⟩ ⟨_, hOp, hFph⟩ (by omega) (by omega)) (by omega) (Nat.zero_le _) (Nat.zero_le _) (Nat.le_of_ble_eq_true rfl) (fun r52 V52 h52 => ?_)
            obtain ⟨⟨y52, rfl, hl52, hh52, hP52_0⟩, hE52⟩ := h52
            have hE52 := hE52.symm
            subst hE52
            refine Jz_if_eq (tgt := 61) jEq.rf dX6_hole_55 (by decide) (fun c55 => ?_) (fun c55 => ?_)
            · exact False.elim (by
    rcases hp5 with h9 | h9
    · rcases (show y39.toInt = 1 ∨ y39.toInt = 0 by omega) with h8 | h8
      · have q := hI39_0.of h8
        rw [h9] at q
        have q2 := of_decide_eq_false q
        omega
      · have q := hI39_1.of h8
        rw [h9] at q
        have q2 := of_decide_eq_true q
        omega
    · omega)
            · refine Jz_bipush (-3) dX6_hole_58 (by decide) (fun y58 he58 => ?_)
              exact J_ret (r := some (.int _)) dX6_hole_60 ⟨rfl, _, rfl, rfl⟩ (⟨⟨_, rfl, (j_rng _).1, (j_rng _).2, (by (try simp only [he58.eq, true_and, and_true]) <;> omega)⟩, rfl⟩)
        · exact False.elim (by omega)
set_option maxRecDepth 100000 in
set_option maxHeartbeats 8000000 in
theorem w_X6_hole_turn {tS : jTS} (d : Nat) (V0 : jH) (a0 : Nat) (x1 : Int32) (x2 : Int32) (x3 : Int32) (pl : Nat) (pw : Int32) (ph : Int32) (po : Int64) (hd : 3 ≤ d) (hW : WT V0) (ha0 : jis V0 (.inr 4) a0) (hl3 : 0 ≤ x3.toInt) (hh3 : x3.toInt ≤ 1) (hr_pl : jfR V0 a0 4 6 pl) (hpw : jfI V0 pl 0 1 pw) (hph : jfI V0 pl 0 2 ph) (hpo : jfL V0 pl 0 3 po) (hp0 : 2 ≤ pw.toInt) (hp1 : pw.toInt ≤ 6) (hp2 : 2 ≤ ph.toInt) (hp3 : ph.toInt ≤ 6) (hp4 : 0 ≤ x1.toInt ∧ x1.toInt < pw.toInt ∧ 0 ≤ x2.toInt ∧ x2.toInt < ph.toInt) (hp5 : jbt po (9 + x1.toInt + 8 * x2.toInt).toNat = decide (x3.toInt = 1)) (hp6 : ¬ (x1.toInt = 0 ∧ x2.toInt = 0 ∨ x1.toInt = pw.toInt - 1 ∧ x2.toInt = ph.toInt - 1)) : jTot tS mX6_hole d [.ref a0, .int x1, .int x2, .int x3] V0 0 0 (fun r V => (jPost [.inr 0] V0 (fun r _ => ∃ y : Int32, r = some (.int y) ∧ ((-2147483648) ≤ y.toInt) ∧ (y.toInt ≤ 2147483647) ∧ (y.toInt = 1))) r V ∧ jkc 0 [1, 2] V0 V ∧ (∃ op2 : Int64, jfL V pl 0 3 op2 ∧ ∀ n : Nat, jbt op2 n = (jbt po n ^^ decide (n = (9 + x1.toInt + 8 * x2.toInt).toNat)))) := by
  refine jTot.of_J [some (.ref a0), some (.int x1), some (.int x2), some (.int x3)] moX6_hole (Nat.le_of_ble_eq_true rfl) rfl ?_
  have hrx1 := j_rng x1
  have hrx2 := j_rng x2
  have he : jeff [.inr 0] V0 V0 := jeff.refl _ _
  obtain ⟨fs_a0, hO_a0, hK_a0⟩ := WT_obj hW id ha0
  have hF_pl := hr_pl.get hO_a0
  obtain ⟨w_pl, hFq_pl, b_pl, hbq_pl, hb_pl⟩ := hK_a0.2 6 (.inr (some (.inr 0))) rfl
  cases hF_pl.symm.trans (hFq_pl.trans (congrArg some hbq_pl))
  obtain ⟨fsp, hOp, hKp⟩ := WT_obj hW id hb_pl
  have hFpw := hpw.get hOp
  have hFph := hph.get hOp
  have hFpo := hpo.get hOp
  refine J_iload_n dX6_hole_0 rfl ?_
  refine Jz_if_lt (tgt := 30) jEq.rf dX6_hole_1 (by decide) (fun c1 => ?_) (fun c1 => ?_)
  · exact False.elim (by omega)
  · refine J_iload_n dX6_hole_4 rfl ?_
    refine J_aload_n dX6_hole_5 rfl ?_
    refine J_get jf_X6_42 dX6_hole_6 hO_a0 hF_pl ?_
    refine J_get jf_X6_205 dX6_hole_9 hOp hFpw ?_
    refine Jz_icmp_ge (tgt := 30) jEq.rf jEq.rf dX6_hole_12 (by decide) (fun c12 => ?_) (fun c12 => ?_)
    · exact False.elim (by omega)
    · refine J_iload_n dX6_hole_15 rfl ?_
      refine Jz_if_lt (tgt := 30) jEq.rf dX6_hole_16 (by decide) (fun c16 => ?_) (fun c16 => ?_)
      · exact False.elim (by omega)
      · refine J_iload_n dX6_hole_19 rfl ?_
        refine J_aload_n dX6_hole_20 rfl ?_
        refine J_get jf_X6_42 dX6_hole_21 hO_a0 hF_pl ?_
        refine J_get jf_X6_208 dX6_hole_24 hOp hFph ?_
        refine Jz_icmp_lt (tgt := 33) jEq.rf jEq.rf dX6_hole_27 (by decide) (fun c27 => ?_) (fun c27 => ?_)
        · refine J_aload_n dX6_hole_33 rfl ?_
          refine J_get jf_X6_42 dX6_hole_34 hO_a0 hF_pl ?_
          refine J_iload_n dX6_hole_37 rfl ?_
          refine J_iload_n dX6_hole_38 rfl ?_
          refine Jw_callV2 (q9 := (RX2, TX2, 9)) moX2_isHole jw_ml_X6_211 jw_im_X2_isHole jw_se_X2_isHole hb_pl rfl rfl dX6_hole_39 (w_X2_isHole_z (d - 1) _ pl x1 x2 po (by omega) hW  hb_pl ⟨_, hOp, hFpo⟩ (by omega) (by omega) (by omega) (by omega)) (by omega) (Nat.zero_le _) (Nat.zero_le _) (Nat.le_of_ble_eq_true rfl) (fun r39 V39 h39 => ?_)
          obtain ⟨⟨y39, rfl, hl39, hh39, hI39_0, hI39_1⟩, hE39⟩ := h39
          have hE39 := hE39.symm
          subst hE39
          refine J_iload_n dX6_hole_42 rfl ?_
          refine Jz_icmp_eq (tgt := 58) jEq.rf jEq.rf dX6_hole_43 (by decide) (fun c43 => ?_) (fun c43 => ?_)
          · exact False.elim (by
    rcases (show y39.toInt = 1 ∨ y39.toInt = 0 by omega) with h8 | h8
    · have q := hI39_0.of h8
      rw [hp5] at q
      have q2 := of_decide_eq_false q
      omega
    · have q := hI39_1.of h8
      rw [hp5] at q
      have q2 := of_decide_eq_true q
      omega)
          · refine J_aload_n dX6_hole_46 rfl ?_
            refine J_get jf_X6_42 dX6_hole_47 hO_a0 hF_pl ?_
            refine J_iload_n dX6_hole_50 rfl ?_
            refine J_iload_n dX6_hole_51 rfl ?_
            refine Jw_callV2 (q9 := (RX2, TX2, 9)) moX2_isCorner jw_ml_X6_214 jw_im_X2_isCorner jw_se_X2_isCorner hb_pl rfl rfl dX6_hole_52 (w_X2_isCorner_z (d - 1) _ pl x1 x2 pw ph (by omega) hW  hb_pl ⟨_, hOp, hFpw⟩ ⟨_, hOp, hFph⟩ (by omega) (by omega)) (by omega) (Nat.zero_le _) (Nat.zero_le _) (Nat.le_of_ble_eq_true rfl) (fun r52 V52 h52 => ?_)
            obtain ⟨⟨y52, rfl, hl52, hh52, hP52_0⟩, hE52⟩ := h52
            have hE52 := hE52.symm
            subst hE52
            refine Jz_if_eq (tgt := 61) jEq.rf dX6_hole_55 (by decide) (fun c55 => ?_) (fun c55 => ?_)
            · refine J_aload_n dX6_hole_61 rfl ?_
              refine J_get jf_X6_42 dX6_hole_62 hO_a0 hF_pl ?_
              refine J_iload_n dX6_hole_65 rfl ?_
              refine J_iload_n dX6_hole_66 rfl ?_
              refine Jw_callV2 (q9 := (RX2, TX2, 9)) moX2_turnOver jw_ml_X6_217 jw_im_X2_turnOver jw_se_X2_turnOver hb_pl rfl rfl dX6_hole_67 (w_X2_turnOver_z (d - 1) _ pl x1 x2 po (by omega) hW  hb_pl ⟨_, hOp, hFpo⟩ (by omega) (by omega) (by omega) (by omega)) (by omega) (Nat.zero_le _) (Nat.zero_le _) (Nat.le_of_ble_eq_true rfl) (fun r67 V67 h67 => ?_)
              obtain ⟨h67, hX67_0, hX67_1⟩ := h67
              obtain ⟨hW, hx67, hr67⟩ := h67
              have he := he.trans (hx67.sub (jsub_of rfl))
              have ha0 := ha0.mono hx67.1
              have hb_pl := hb_pl.mono hx67.1
              have hO_a0 := hx67.2 _ _ hO_a0 (jnot_of rfl)
              have hK_a0 := hK_a0.mono hx67.1
              obtain ⟨fs67pl, hOfs67pl, hRfs67pl⟩ := hx67.1.keep hOp
              have hKfs67pl : jokO _ (jFs 0) fs67pl := hW _ _ id hOfs67pl
              cases hr67
              refine Jz_iconst 1 dX6_hole_70 (by decide) (fun y70 he70 => ?_)
              exact J_ret (r := some (.int _)) dX6_hole_71 ⟨rfl, _, rfl, rfl⟩ (⟨⟨hW, he, ⟨_, rfl, (j_rng _).1, (j_rng _).2, (by (try simp only [he70.eq, true_and, and_true]) <;> omega)⟩⟩, hX67_1, hX67_0⟩)
            · exact False.elim (by
    rcases (show y39.toInt = 1 ∨ y39.toInt = 0 by omega) with h8 | h8
    · have q := hI39_0.of h8
      rw [hp5] at q
      have q2 := of_decide_eq_false q
      omega
    · have q := hI39_1.of h8
      rw [hp5] at q
      have q2 := of_decide_eq_true q
      omega)
        · exact False.elim (by omega)
set_option maxRecDepth 100000 in
set_option maxHeartbeats 8000000 in
theorem w_X6_board_no {tS : jTS} (d : Nat) (V0 : jH) (a0 : Nat) (x1 : Int32) (x2 : Int32) (hd : 3 ≤ d) (hW : WT V0) (ha0 : jis V0 (.inr 4) a0) (hp0 : ¬ (2 ≤ x1.toInt ∧ x1.toInt ≤ 6 ∧ 2 ≤ x2.toInt ∧ x2.toInt ≤ 6)) : jTot tS mX6_board d [.ref a0, .int x1, .int x2] V0 0 0 (fun r V => (fun r _ => ∃ y : Int32, r = some (.int y) ∧ ((-2147483648) ≤ y.toInt) ∧ (y.toInt ≤ 2147483647) ∧ (y.toInt = -2)) r V ∧ V = V0) := by
  refine jTot.of_J [some (.ref a0), some (.int x1), some (.int x2)] moX6_board (Nat.le_of_ble_eq_true rfl) rfl ?_
  have hrx1 := j_rng x1
  have hrx2 := j_rng x2
  have he : jeff [] V0 V0 := jeff.refl _ _
  refine J_iload_n dX6_board_0 rfl ?_
  refine Jz_iconst 2 dX6_board_1 (by decide) (fun y1 he1 => ?_)
  refine Jz_icmp_lt (tgt := 22) jEq.rf he1 dX6_board_2 (by decide) (fun c2 => ?_) (fun c2 => ?_)
  · refine Jz_bipush (-2) dX6_board_22 (by decide) (fun y22 he22 => ?_)
    exact J_ret (r := some (.int _)) dX6_board_24 ⟨rfl, _, rfl, rfl⟩ (⟨⟨_, rfl, (j_rng _).1, (j_rng _).2, (by (try simp only [he22.eq, true_and, and_true]) <;> omega)⟩, rfl⟩)
  · refine J_iload_n dX6_board_5 rfl ?_
    refine Jz_bipush 6 dX6_board_6 (by decide) (fun y6 he6 => ?_)
    refine Jz_icmp_gt (tgt := 22) jEq.rf he6 dX6_board_8 (by decide) (fun c8 => ?_) (fun c8 => ?_)
    · refine Jz_bipush (-2) dX6_board_22 (by decide) (fun y22 he22 => ?_)
      exact J_ret (r := some (.int _)) dX6_board_24 ⟨rfl, _, rfl, rfl⟩ (⟨⟨_, rfl, (j_rng _).1, (j_rng _).2, (by (try simp only [he22.eq, true_and, and_true]) <;> omega)⟩, rfl⟩)
    · refine J_iload_n dX6_board_11 rfl ?_
      refine Jz_iconst 2 dX6_board_12 (by decide) (fun y12 he12 => ?_)
      refine Jz_icmp_lt (tgt := 22) jEq.rf he12 dX6_board_13 (by decide) (fun c13 => ?_) (fun c13 => ?_)
      · refine Jz_bipush (-2) dX6_board_22 (by decide) (fun y22 he22 => ?_)
        exact J_ret (r := some (.int _)) dX6_board_24 ⟨rfl, _, rfl, rfl⟩ (⟨⟨_, rfl, (j_rng _).1, (j_rng _).2, (by (try simp only [he22.eq, true_and, and_true]) <;> omega)⟩, rfl⟩)
      · refine J_iload_n dX6_board_16 rfl ?_
        refine Jz_bipush 6 dX6_board_17 (by decide) (fun y17 he17 => ?_)
        refine Jz_icmp_le (tgt := 25) jEq.rf he17 dX6_board_19 (by decide) (fun c19 => ?_) (fun c19 => ?_)
        · exact False.elim (by omega)
        · refine Jz_bipush (-2) dX6_board_22 (by decide) (fun y22 he22 => ?_)
          exact J_ret (r := some (.int _)) dX6_board_24 ⟨rfl, _, rfl, rfl⟩ (⟨⟨_, rfl, (j_rng _).1, (j_rng _).2, (by (try simp only [he22.eq, true_and, and_true]) <;> omega)⟩, rfl⟩)
set_option maxRecDepth 100000 in
set_option maxHeartbeats 8000000 in
theorem w_X6_board_yes {tS : jTS} (d : Nat) (V0 : jH) (a0 : Nat) (x1 : Int32) (x2 : Int32) (pl : Nat) (hd : 3 ≤ d) (hW : WT V0) (ha0 : jis V0 (.inr 4) a0) (hr_pl : jfR V0 a0 4 6 pl) (hp0 : 2 ≤ x1.toInt ∧ x1.toInt ≤ 6 ∧ 2 ≤ x2.toInt ∧ x2.toInt ≤ 6) : jTot tS mX6_board d [.ref a0, .int x1, .int x2] V0 0 0 (fun r V => (jPost [.inr 0] V0 (fun r _ => ∃ y : Int32, r = some (.int y) ∧ ((-2147483648) ≤ y.toInt) ∧ (y.toInt ≤ 2147483647) ∧ (y.toInt = 1))) r V ∧ (∃ (w2 h2 : Int32) (op2 : Int64), jfI V pl 0 1 w2 ∧ jfI V pl 0 2 h2 ∧ jfL V pl 0 3 op2 ∧ w2.toInt = x1.toInt ∧ h2.toInt = x2.toInt ∧ ∀ n : Nat, jbt op2 n = true ↔ ∃ x y : Nat, ((x : Int) < x1.toInt ∧ (y : Int) < x2.toInt) ∧ n = 9 + x + 8 * y)) := by
  refine jTot.of_J [some (.ref a0), some (.int x1), some (.int x2)] moX6_board (Nat.le_of_ble_eq_true rfl) rfl ?_
  have hrx1 := j_rng x1
  have hrx2 := j_rng x2
  have he : jeff [.inr 0] V0 V0 := jeff.refl _ _
  obtain ⟨fs_a0, hO_a0, hK_a0⟩ := WT_obj hW id ha0
  have hF_pl := hr_pl.get hO_a0
  obtain ⟨w_pl, hFq_pl, b_pl, hbq_pl, hb_pl⟩ := hK_a0.2 6 (.inr (some (.inr 0))) rfl
  cases hF_pl.symm.trans (hFq_pl.trans (congrArg some hbq_pl))
  refine J_iload_n dX6_board_0 rfl ?_
  refine Jz_iconst 2 dX6_board_1 (by decide) (fun y1 he1 => ?_)
  refine Jz_icmp_lt (tgt := 22) jEq.rf he1 dX6_board_2 (by decide) (fun c2 => ?_) (fun c2 => ?_)
  · exact False.elim (by omega)
  · refine J_iload_n dX6_board_5 rfl ?_
    refine Jz_bipush 6 dX6_board_6 (by decide) (fun y6 he6 => ?_)
    refine Jz_icmp_gt (tgt := 22) jEq.rf he6 dX6_board_8 (by decide) (fun c8 => ?_) (fun c8 => ?_)
    · exact False.elim (by omega)
    · refine J_iload_n dX6_board_11 rfl ?_
      refine Jz_iconst 2 dX6_board_12 (by decide) (fun y12 he12 => ?_)
      refine Jz_icmp_lt (tgt := 22) jEq.rf he12 dX6_board_13 (by decide) (fun c13 => ?_) (fun c13 => ?_)
      · exact False.elim (by omega)
      · refine J_iload_n dX6_board_16 rfl ?_
        refine Jz_bipush 6 dX6_board_17 (by decide) (fun y17 he17 => ?_)
        refine Jz_icmp_le (tgt := 25) jEq.rf he17 dX6_board_19 (by decide) (fun c19 => ?_) (fun c19 => ?_)
        · refine J_aload_n dX6_board_25 rfl ?_
          refine J_get jf_X6_42 dX6_board_26 hO_a0 hF_pl ?_
          refine J_iload_n dX6_board_29 rfl ?_
          refine J_iload_n dX6_board_30 rfl ?_
          refine Jw_callV2 (q9 := (RX2, TX2, 9)) moX2_lay jw_ml_X6_202 jw_im_X2_lay jw_se_X2_lay hb_pl rfl rfl dX6_board_31 (w_X2_lay_z (d - 1) _ pl x1 x2 (by omega) hW id hb_pl (by omega) (by omega) (by omega) (by omega)) (by omega) (Nat.zero_le _) (Nat.zero_le _) (Nat.le_of_ble_eq_true rfl) (fun r31 V31 h31 => ?_)
          obtain ⟨h31, hX31_0, ⟨fv31_0, hfv31_0, hfp31_0⟩, ⟨fv31_1, hfv31_1, hfp31_1⟩⟩ := h31
          obtain ⟨hW, hx31, hr31⟩ := h31
          have he := he.trans (hx31.sub (jsub_of rfl))
          have ha0 := ha0.mono hx31.1
          have hb_pl := hb_pl.mono hx31.1
          have hO_a0 := hx31.2 _ _ hO_a0 (jnot_of rfl)
          have hK_a0 := hK_a0.mono hx31.1
          cases hr31
          obtain ⟨fs31o, hO31o, hK31o⟩ := WT_obj hW id hb_pl
          have hFv31_0 := hfv31_0.get hO31o
          have hzf31_0 : jEq fv31_0.toInt ((x1.toInt)) := hfp31_0
          clear hfp31_0
          have hFv31_1 := hfv31_1.get hO31o
          have hzf31_1 : jEq fv31_1.toInt ((x2.toInt)) := hfp31_1
          clear hfp31_1
          obtain ⟨op2, hop2, hbits⟩ := hX31_0
          refine Jz_iconst 1 dX6_board_34 (by decide) (fun y34 he34 => ?_)
          exact J_ret (r := some (.int _)) dX6_board_35 ⟨rfl, _, rfl, rfl⟩ (⟨⟨hW, he, ⟨_, rfl, (j_rng _).1, (j_rng _).2, (by (try simp only [he34.eq, true_and, and_true]) <;> omega)⟩⟩, ⟨_, _, op2, hfv31_0, hfv31_1, hop2, hzf31_0.eq, hzf31_1.eq, hbits⟩⟩)
        · exact False.elim (by omega)
set_option maxRecDepth 100000 in
set_option maxHeartbeats 8000000 in
theorem w_X6_count_z {tS : jTS} (d : Nat) (V0 : jH) (a0 : Nat) (x1 : Int32) (v1 : Int32) (pl : Nat) (pw : Int32) (ph : Int32) (po : Int64) (hd : 1 ≤ d) (hW : WT V0) (ha0 : jis V0 (.inr 4) a0) (hf_v1 : jfI V0 a0 4 1 v1) (hr_pl : jfR V0 a0 4 6 pl) (hpw : jfI V0 pl 0 1 pw) (hph : jfI V0 pl 0 2 ph) (hpo : jfL V0 pl 0 3 po) : jTot tS mX6_count d [.ref a0, .int x1] V0 0 0 (fun r V => (fun r _ => ∃ y : Int32, r = some (.int y) ∧ ((-2147483648) ≤ y.toInt) ∧ (y.toInt ≤ 2147483647) ∧ ((x1.toInt = 0 ∧ y.toInt = v1.toInt) ∨ (x1.toInt = 1 ∧ y.toInt = ((jsum (fun n => (jbt po n).toNat) 64 : Nat) : Int)) ∨ (x1.toInt = 2 ∧ y.toInt = pw.toInt) ∨ (x1.toInt = 3 ∧ y.toInt = ph.toInt) ∨ (¬ (0 ≤ x1.toInt ∧ x1.toInt ≤ 3) ∧ y.toInt = -2))) r V ∧ V = V0) := by
  refine jTot.of_J [some (.ref a0), some (.int x1)] moX6_count (Nat.le_of_ble_eq_true rfl) rfl ?_
  have hrx1 := j_rng x1
  have he : jeff [] V0 V0 := jeff.refl _ _
  obtain ⟨fs_a0, hO_a0, hK_a0⟩ := WT_obj hW id ha0
  have hF_v1 := hf_v1.get hO_a0
  have hrv1 : 0 ≤ v1.toInt ∧ v1.toInt ≤ 16 := jok_rngI hK_a0 rfl hF_v1
  have hF_pl := hr_pl.get hO_a0
  obtain ⟨w_pl, hFq_pl, b_pl, hbq_pl, hb_pl⟩ := hK_a0.2 6 (.inr (some (.inr 0))) rfl
  cases hF_pl.symm.trans (hFq_pl.trans (congrArg some hbq_pl))
  obtain ⟨fsp, hOp, hKp⟩ := WT_obj hW id hb_pl
  have hFpw := hpw.get hOp
  have hFph := hph.get hOp
  have hFpo := hpo.get hOp
  refine J_iload_n dX6_count_0 rfl ?_
  rcases jsw3 x1 with hx1 | hx1 | hx1 | hx1 | hx1 | hx1
  · have hx1t : x1.toInt = 0 := by rw [hx1]; rfl
    clear hx1
    refine J_tableIn (tgt := 32) dX6_count_1 (by omega) (by omega) (by rw [hx1t]; rfl) (by decide) ?_
    refine J_aload_n dX6_count_32 rfl ?_
    refine J_get jf_X6_15 dX6_count_33 hO_a0 hF_v1 ?_
    exact J_ret (r := some (.int _)) dX6_count_36 ⟨rfl, _, rfl, rfl⟩ (⟨⟨_, rfl, (j_rng _).1, (j_rng _).2, (by omega)⟩, rfl⟩)
  · have hx1t : x1.toInt = 1 := by rw [hx1]; rfl
    clear hx1
    refine J_tableIn (tgt := 37) dX6_count_1 (by omega) (by omega) (by rw [hx1t]; rfl) (by decide) ?_
    refine J_aload_n dX6_count_37 rfl ?_
    refine J_get jf_X6_42 dX6_count_38 hO_a0 hF_pl ?_
    refine J_get jf_X6_234 dX6_count_41 hOp hFpo ?_
    refine J_callS1 moJ13_bitCount_95d88 jw_ml_X6_238 jw_st_J13_bitCount_95d88 dX6_count_44 (w_J13_bitCount_95d88_z (d - 1) _ po (by omega)   ) (by omega) (Nat.zero_le _) (Nat.zero_le _) (Nat.le_of_ble_eq_true rfl) (fun r44 V44 h44 => ?_)
    obtain ⟨⟨y44, rfl, hl44, hh44, hP44_0⟩, hE44⟩ := h44
    have hE44 := hE44.symm
    subst hE44
    clear hl44 hh44
    exact J_ret (r := some (.int _)) dX6_count_47 ⟨rfl, _, rfl, rfl⟩ (⟨⟨_, rfl, (j_rng _).1, (j_rng _).2, (by omega)⟩, rfl⟩)
  · have hx1t : x1.toInt = 2 := by rw [hx1]; rfl
    clear hx1
    refine J_tableIn (tgt := 48) dX6_count_1 (by omega) (by omega) (by rw [hx1t]; rfl) (by decide) ?_
    refine J_aload_n dX6_count_48 rfl ?_
    refine J_get jf_X6_42 dX6_count_49 hO_a0 hF_pl ?_
    refine J_get jf_X6_205 dX6_count_52 hOp hFpw ?_
    exact J_ret (r := some (.int _)) dX6_count_55 ⟨rfl, _, rfl, rfl⟩ (⟨⟨_, rfl, (j_rng _).1, (j_rng _).2, (by omega)⟩, rfl⟩)
  · have hx1t : x1.toInt = 3 := by rw [hx1]; rfl
    clear hx1
    refine J_tableIn (tgt := 56) dX6_count_1 (by omega) (by omega) (by rw [hx1t]; rfl) (by decide) ?_
    refine J_aload_n dX6_count_56 rfl ?_
    refine J_get jf_X6_42 dX6_count_57 hO_a0 hF_pl ?_
    refine J_get jf_X6_208 dX6_count_60 hOp hFph ?_
    exact J_ret (r := some (.int _)) dX6_count_63 ⟨rfl, _, rfl, rfl⟩ (⟨⟨_, rfl, (j_rng _).1, (j_rng _).2, (by omega)⟩, rfl⟩)
  · refine J_tableOut (tgt := 64) dX6_count_1 (Or.inl hx1) (by decide) ?_
    refine Jz_bipush (-2) dX6_count_64 (by decide) (fun y64 he64 => ?_)
    exact J_ret (r := some (.int _)) dX6_count_66 ⟨rfl, _, rfl, rfl⟩ (⟨⟨_, rfl, (j_rng _).1, (j_rng _).2, (by (try simp only [he64.eq, true_and, and_true]) <;> omega)⟩, rfl⟩)
  · refine J_tableOut (tgt := 64) dX6_count_1 (Or.inr hx1) (by decide) ?_
    refine Jz_bipush (-2) dX6_count_64 (by decide) (fun y64 he64 => ?_)
    exact J_ret (r := some (.int _)) dX6_count_66 ⟨rfl, _, rfl, rfl⟩ (⟨⟨_, rfl, (j_rng _).1, (j_rng _).2, (by (try simp only [he64.eq, true_and, and_true]) <;> omega)⟩, rfl⟩)
set_option maxRecDepth 100000 in
set_option maxHeartbeats 8000000 in
theorem w_X0_shiftX_z {tS : jTS} (d : Nat) (V0 : jH) (x0 : Int32) (x1 : Int32) (hd : 0 ≤ d)  (hp0 : 0 ≤ x0.toInt) (hp1 : x0.toInt ≤ 3) (hp2 : 0 ≤ x1.toInt) (hp3 : x1.toInt < jdir x0.toInt) : jTot tS mX0_shiftX d [.int x0, .int x1] V0 0 0 (fun r V => (fun r _ => ∃ y : Int32, r = some (.int y) ∧ ((-2147483648) ≤ y.toInt) ∧ (y.toInt ≤ 2147483647) ∧ (y.toInt = jsx x0.toInt x1.toInt)) r V ∧ V = V0) := by
  refine jTot.of_J [some (.int x0), some (.int x1), none] moX0_shiftX (Nat.le_of_ble_eq_true rfl) rfl ?_
  have hrx0 := j_rng x0
  have hrx1 := j_rng x1
  have hjd := jdir_cases x0.toInt
  refine Jz_bipush 6 dX0_shiftX_0 (by decide) (fun y0 he0 => ?_)
  refine J_iload_n dX0_shiftX_2 rfl ?_
  refine Jz_imul he0 jEq.rf dX0_shiftX_3 (by omega) (by omega) (fun y3 he3 => ?_)
  refine J_iload_n dX0_shiftX_4 rfl ?_
  refine Jz_iadd he3 jEq.rf dX0_shiftX_5 (by omega) (by omega) (fun y5 he5 => ?_)
  refine J_istore_n dX0_shiftX_6 rfl (by decide) ?_
  refine J_iload_n dX0_shiftX_7 rfl ?_
  refine Jz_if_lt (tgt := 27) he5 dX0_shiftX_8 (by decide) (fun c8 => ?_) (fun c8 => ?_)
  · exact False.elim (by omega)
  · refine J_iload_n dX0_shiftX_11 rfl ?_
    refine J_gets (k := 0) rfl jw_fl_X0_18 dX0_shiftX_12 ?_
    refine J_tlen (k := 0) (v := Int32.ofNat 24) rfl dX0_shiftX_15 rfl ?_
    have he15 : jEq (Int32.ofNat 24).toInt 24 := nI_toInt (by decide)
    generalize Int32.ofNat 24 = y15 at he15 ⊢
    refine Jz_icmp_ge (tgt := 27) he5 he15 dX0_shiftX_16 (by decide) (fun c16 => ?_) (fun c16 => ?_)
    · exact False.elim (by omega)
    · refine J_gets (k := 0) rfl jw_fl_X0_18 dX0_shiftX_19 ?_
      refine J_iload_n dX0_shiftX_22 rfl ?_
      refine J_ti (k := 0) (v := .int (jSv0.getD y5.toNatClampNeg 0)) rfl rfl dX0_shiftX_23 (vp_in_n (by (try simp only [he5.eq, true_and, and_true]) <;> omega) (by (try simp only [he5.eq, true_and, and_true]) <;> omega)) rfl ?_
      have hz23 : jEq (jSv0.getD y5.toNatClampNeg 0).toInt (jsx x0.toInt x1.toInt) := (jtabx (by omega) (by omega) (by omega) (by omega) he5.eq)
      generalize jSv0.getD y5.toNatClampNeg 0 = y23 at hz23 ⊢
      refine J_goto (tgt := 28) dX0_shiftX_24 (by decide) ?_
      exact J_ret (r := some (.int _)) dX0_shiftX_28 ⟨rfl, _, rfl, rfl⟩ (⟨⟨_, rfl, (j_rng _).1, (j_rng _).2, (by first | ((try simp only [hz23.eq, true_and, and_true]) <;> omega) | ((try simp only [hz23.eq]); unfold jsx; (repeat' split) <;> omega))⟩, rfl⟩)
set_option maxRecDepth 100000 in
set_option maxHeartbeats 8000000 in
theorem w_X0_isEven_z {tS : jTS} (d : Nat) (V0 : jH) (x0 : Int32) (x1 : Int32) (hd : 0 ≤ d)  (hp0 : -1000 ≤ x0.toInt) (hp1 : x0.toInt ≤ 1000) (hp2 : -1000 ≤ x1.toInt) (hp3 : x1.toInt ≤ 1000) : jTot tS mX0_isEven d [.int x0, .int x1] V0 0 0 (fun r V => (fun r _ => ∃ y : Int32, r = some (.int y) ∧ (0 ≤ y.toInt) ∧ (y.toInt ≤ 1) ∧ ((y.toInt = 1 ∧ (x0.toInt + x1.toInt) % 2 = 0) ∨ (y.toInt = 0 ∧ ¬ (x0.toInt + x1.toInt) % 2 = 0))) r V ∧ V = V0) := by
  refine jTot.of_J [some (.int x0), some (.int x1)] moX0_isEven (Nat.le_of_ble_eq_true rfl) rfl ?_
  have hrx0 := j_rng x0
  have hrx1 := j_rng x1
  refine J_iload_n dX0_isEven_0 rfl ?_
  refine J_iload_n dX0_isEven_1 rfl ?_
  refine Jz_iadd jEq.rf jEq.rf dX0_isEven_2 (by omega) (by omega) (fun y2 he2 => ?_)
  refine Jz_iconst 1 dX0_isEven_3 (by decide) (fun y3 he3 => ?_)
  refine J_iand dX0_isEven_4 ?_
  have hz4 : jEq (y2 &&& y3).toInt ((x0.toInt + x1.toInt) % 2) := by rw [show y3 = 1 from jI_inj.mp he3.eq, jand1 y2, he2.eq]; rfl
  generalize y2 &&& y3 = y4 at hz4 ⊢
  refine Jz_if_ne (tgt := 12) hz4 dX0_isEven_5 (by decide) (fun c5 => ?_) (fun c5 => ?_)
  · refine Jz_iconst 0 dX0_isEven_12 (by decide) (fun y12 he12 => ?_)
    exact J_ret (r := some (.int _)) dX0_isEven_13 ⟨rfl, _, rfl, (nar_b (by (try simp only [he12.eq, true_and, and_true]) <;> omega) (by (try simp only [he12.eq, true_and, and_true]) <;> omega))⟩ (⟨⟨_, rfl, (by (try simp only [he12.eq, true_and, and_true]) <;> omega), (by (try simp only [he12.eq, true_and, and_true]) <;> omega), (by (try simp only [he12.eq, true_and, and_true]) <;> omega)⟩, rfl⟩)
  · refine Jz_iconst 1 dX0_isEven_8 (by decide) (fun y8 he8 => ?_)
    refine J_goto (tgt := 13) dX0_isEven_9 (by decide) ?_
    exact J_ret (r := some (.int _)) dX0_isEven_13 ⟨rfl, _, rfl, (nar_b (by (try simp only [he8.eq, true_and, and_true]) <;> omega) (by (try simp only [he8.eq, true_and, and_true]) <;> omega))⟩ (⟨⟨_, rfl, (by (try simp only [he8.eq, true_and, and_true]) <;> omega), (by (try simp only [he8.eq, true_and, and_true]) <;> omega), (by (try simp only [he8.eq, true_and, and_true]) <;> omega)⟩, rfl⟩)
set_option maxRecDepth 100000 in
set_option maxHeartbeats 8000000 in
theorem w_X0_shiftY_z {tS : jTS} (d : Nat) (V0 : jH) (x0 : Int32) (x1 : Int32) (x2 : Int32) (x3 : Int32) (hd : 1 ≤ d)  (hp0 : 0 ≤ x0.toInt) (hp1 : x0.toInt ≤ 3) (hp2 : 0 ≤ x1.toInt) (hp3 : x1.toInt < jdir x0.toInt) (hp4 : -1000 ≤ x2.toInt) (hp5 : x2.toInt ≤ 1000) (hp6 : -1000 ≤ x3.toInt) (hp7 : x3.toInt ≤ 1000) : jTot tS mX0_shiftY d [.int x0, .int x1, .int x2, .int x3] V0 0 0 (fun r V => (fun r _ => ∃ y : Int32, r = some (.int y) ∧ ((-2147483648) ≤ y.toInt) ∧ (y.toInt ≤ 2147483647) ∧ (y.toInt = jsy x0.toInt x1.toInt (x2.toInt + x3.toInt))) r V ∧ V = V0) := by
  refine jTot.of_J [some (.int x0), some (.int x1), some (.int x2), some (.int x3), none] moX0_shiftY (Nat.le_of_ble_eq_true rfl) rfl ?_
  have hrx0 := j_rng x0
  have hrx1 := j_rng x1
  have hrx2 := j_rng x2
  have hrx3 := j_rng x3
  have hjd := jdir_cases x0.toInt
  refine J_iload_n dX0_shiftY_0 rfl ?_
  refine Jz_iconst 2 dX0_shiftY_1 (by decide) (fun y1 he1 => ?_)
  refine Jz_icmp_ne (tgt := 24) jEq.rf he1 dX0_shiftY_2 (by decide) (fun c2 => ?_) (fun c2 => ?_)
  · refine Jz_bipush 6 dX0_shiftY_24 (by decide) (fun y24 he24 => ?_)
    refine J_iload_n dX0_shiftY_26 rfl ?_
    refine Jz_imul he24 jEq.rf dX0_shiftY_27 (by omega) (by omega) (fun y27 he27 => ?_)
    refine J_iload_n dX0_shiftY_28 rfl ?_
    refine Jz_iadd he27 jEq.rf dX0_shiftY_29 (by omega) (by omega) (fun y29 he29 => ?_)
    refine J_istore dX0_shiftY_30 rfl (by decide) ?_
    refine J_iload dX0_shiftY_32 rfl ?_
    refine Jz_if_lt (tgt := 55) he29 dX0_shiftY_34 (by decide) (fun c34 => ?_) (fun c34 => ?_)
    · exact False.elim (by omega)
    · refine J_iload dX0_shiftY_37 rfl ?_
      refine J_gets (k := 1) rfl jw_fl_X0_26 dX0_shiftY_39 ?_
      refine J_tlen (k := 1) (v := Int32.ofNat 24) rfl dX0_shiftY_42 rfl ?_
      have he42 : jEq (Int32.ofNat 24).toInt 24 := nI_toInt (by decide)
      generalize Int32.ofNat 24 = y42 at he42 ⊢
      refine Jz_icmp_ge (tgt := 55) he29 he42 dX0_shiftY_43 (by decide) (fun c43 => ?_) (fun c43 => ?_)
      · exact False.elim (by omega)
      · refine J_gets (k := 1) rfl jw_fl_X0_26 dX0_shiftY_46 ?_
        refine J_iload dX0_shiftY_49 rfl ?_
        refine J_ti (k := 1) (v := .int (jSv1.getD y29.toNatClampNeg 0)) rfl rfl dX0_shiftY_51 (vp_in_n (by (try simp only [he29.eq, true_and, and_true]) <;> omega) (by (try simp only [he29.eq, true_and, and_true]) <;> omega)) rfl ?_
        have hz51 : jEq (jSv1.getD y29.toNatClampNeg 0).toInt (jsy x0.toInt x1.toInt (x2.toInt + x3.toInt)) := (jtaby _ (by omega) (by omega) (by omega) (by omega) he29.eq (by omega))
        generalize jSv1.getD y29.toNatClampNeg 0 = y51 at hz51 ⊢
        refine J_goto (tgt := 56) dX0_shiftY_52 (by decide) ?_
        exact J_ret (r := some (.int _)) dX0_shiftY_56 ⟨rfl, _, rfl, rfl⟩ (⟨⟨_, rfl, (j_rng _).1, (j_rng _).2, (by first | ((try simp only [hz51.eq, true_and, and_true]) <;> omega) | ((try simp only [hz51.eq]); unfold jsy; (repeat' split) <;> omega))⟩, rfl⟩)
  · refine J_iload_n dX0_shiftY_5 rfl ?_
    refine Jz_iconst 2 dX0_shiftY_6 (by decide) (fun y6 he6 => ?_)
    refine Jz_icmp_ne (tgt := 24) jEq.rf he6 dX0_shiftY_7 (by decide) (fun c7 => ?_) (fun c7 => ?_)
    · refine Jz_bipush 6 dX0_shiftY_24 (by decide) (fun y24 he24 => ?_)
      refine J_iload_n dX0_shiftY_26 rfl ?_
      refine Jz_imul he24 jEq.rf dX0_shiftY_27 (by omega) (by omega) (fun y27 he27 => ?_)
      refine J_iload_n dX0_shiftY_28 rfl ?_
      refine Jz_iadd he27 jEq.rf dX0_shiftY_29 (by omega) (by omega) (fun y29 he29 => ?_)
      refine J_istore dX0_shiftY_30 rfl (by decide) ?_
      refine J_iload dX0_shiftY_32 rfl ?_
      refine Jz_if_lt (tgt := 55) he29 dX0_shiftY_34 (by decide) (fun c34 => ?_) (fun c34 => ?_)
      · exact False.elim (by omega)
      · refine J_iload dX0_shiftY_37 rfl ?_
        refine J_gets (k := 1) rfl jw_fl_X0_26 dX0_shiftY_39 ?_
        refine J_tlen (k := 1) (v := Int32.ofNat 24) rfl dX0_shiftY_42 rfl ?_
        have he42 : jEq (Int32.ofNat 24).toInt 24 := nI_toInt (by decide)
        generalize Int32.ofNat 24 = y42 at he42 ⊢
        refine Jz_icmp_ge (tgt := 55) he29 he42 dX0_shiftY_43 (by decide) (fun c43 => ?_) (fun c43 => ?_)
        · exact False.elim (by omega)
        · refine J_gets (k := 1) rfl jw_fl_X0_26 dX0_shiftY_46 ?_
          refine J_iload dX0_shiftY_49 rfl ?_
          refine J_ti (k := 1) (v := .int (jSv1.getD y29.toNatClampNeg 0)) rfl rfl dX0_shiftY_51 (vp_in_n (by (try simp only [he29.eq, true_and, and_true]) <;> omega) (by (try simp only [he29.eq, true_and, and_true]) <;> omega)) rfl ?_
          have hz51 : jEq (jSv1.getD y29.toNatClampNeg 0).toInt (jsy x0.toInt x1.toInt (x2.toInt + x3.toInt)) := (jtaby _ (by omega) (by omega) (by omega) (by omega) he29.eq (by omega))
          generalize jSv1.getD y29.toNatClampNeg 0 = y51 at hz51 ⊢
          refine J_goto (tgt := 56) dX0_shiftY_52 (by decide) ?_
          exact J_ret (r := some (.int _)) dX0_shiftY_56 ⟨rfl, _, rfl, rfl⟩ (⟨⟨_, rfl, (j_rng _).1, (j_rng _).2, (by first | ((try simp only [hz51.eq, true_and, and_true]) <;> omega) | ((try simp only [hz51.eq]); unfold jsy; (repeat' split) <;> omega))⟩, rfl⟩)
    · refine J_iload_n dX0_shiftY_10 rfl ?_
      refine J_iload_n dX0_shiftY_11 rfl ?_
      refine J_callS2 moX0_isEven jw_ml_X0_22 jw_st_X0_isEven dX0_shiftY_12 (w_X0_isEven_z (d - 1) _ x2 x3 (by omega)   (by omega) (by omega) (by omega) (by omega)) (by omega) (Nat.zero_le _) (Nat.zero_le _) (Nat.le_of_ble_eq_true rfl) (fun r12 V12 h12 => ?_)
      obtain ⟨⟨y12, rfl, hl12, hh12, hP12_0⟩, hE12⟩ := h12
      have hE12 := hE12.symm
      subst hE12
      refine Jz_if_eq (tgt := 22) jEq.rf dX0_shiftY_15 (by decide) (fun c15 => ?_) (fun c15 => ?_)
      · refine Jz_iconst (-1) dX0_shiftY_22 (by decide) (fun y22 he22 => ?_)
        exact J_ret (r := some (.int _)) dX0_shiftY_23 ⟨rfl, _, rfl, rfl⟩ (⟨⟨_, rfl, (j_rng _).1, (j_rng _).2, (by first | ((try simp only [he22.eq, true_and, and_true]) <;> omega) | ((try simp only [he22.eq]); unfold jsy; (repeat' split) <;> omega))⟩, rfl⟩)
      · refine Jz_iconst 1 dX0_shiftY_18 (by decide) (fun y18 he18 => ?_)
        refine J_goto (tgt := 23) dX0_shiftY_19 (by decide) ?_
        exact J_ret (r := some (.int _)) dX0_shiftY_23 ⟨rfl, _, rfl, rfl⟩ (⟨⟨_, rfl, (j_rng _).1, (j_rng _).2, (by first | ((try simp only [he18.eq, true_and, and_true]) <;> omega) | ((try simp only [he18.eq]); unfold jsy; (repeat' split) <;> omega))⟩, rfl⟩)
set_option maxRecDepth 100000 in
set_option maxHeartbeats 8000000 in
theorem w_X0_shiftZ_z {tS : jTS} (d : Nat) (V0 : jH) (x0 : Int32) (x1 : Int32) (hd : 0 ≤ d)  (hp0 : 0 ≤ x0.toInt) (hp1 : x0.toInt ≤ 3) (hp2 : 0 ≤ x1.toInt) (hp3 : x1.toInt < jdir x0.toInt) : jTot tS mX0_shiftZ d [.int x0, .int x1] V0 0 0 (fun r V => (fun r _ => ∃ y : Int32, r = some (.int y) ∧ ((-2147483648) ≤ y.toInt) ∧ (y.toInt ≤ 2147483647) ∧ (y.toInt = jsz x0.toInt x1.toInt)) r V ∧ V = V0) := by
  refine jTot.of_J [some (.int x0), some (.int x1)] moX0_shiftZ (Nat.le_of_ble_eq_true rfl) rfl ?_
  have hrx0 := j_rng x0
  have hrx1 := j_rng x1
  have hjd := jdir_cases x0.toInt
  refine J_iload_n dX0_shiftZ_0 rfl ?_
  refine Jz_iconst 3 dX0_shiftZ_1 (by decide) (fun y1 he1 => ?_)
  refine Jz_icmp_eq (tgt := 7) jEq.rf he1 dX0_shiftZ_2 (by decide) (fun c2 => ?_) (fun c2 => ?_)
  · refine J_iload_n dX0_shiftZ_7 rfl ?_
    refine Jz_iconst 2 dX0_shiftZ_8 (by decide) (fun y8 he8 => ?_)
    refine Jz_icmp_ne (tgt := 16) jEq.rf he8 dX0_shiftZ_9 (by decide) (fun c9 => ?_) (fun c9 => ?_)
    · refine J_iload_n dX0_shiftZ_16 rfl ?_
      refine Jz_iconst 5 dX0_shiftZ_17 (by decide) (fun y17 he17 => ?_)
      refine Jz_icmp_ne (tgt := 25) jEq.rf he17 dX0_shiftZ_18 (by decide) (fun c18 => ?_) (fun c18 => ?_)
      · refine Jz_iconst 0 dX0_shiftZ_25 (by decide) (fun y25 he25 => ?_)
        exact J_ret (r := some (.int _)) dX0_shiftZ_26 ⟨rfl, _, rfl, rfl⟩ (⟨⟨_, rfl, (j_rng _).1, (j_rng _).2, (by first | ((try simp only [he25.eq, true_and, and_true]) <;> omega) | ((try simp only [he25.eq]); unfold jsz; (repeat' split) <;> omega))⟩, rfl⟩)
      · refine Jz_iconst (-1) dX0_shiftZ_21 (by decide) (fun y21 he21 => ?_)
        refine J_goto (tgt := 26) dX0_shiftZ_22 (by decide) ?_
        exact J_ret (r := some (.int _)) dX0_shiftZ_26 ⟨rfl, _, rfl, rfl⟩ (⟨⟨_, rfl, (j_rng _).1, (j_rng _).2, (by first | ((try simp only [he21.eq, true_and, and_true]) <;> omega) | ((try simp only [he21.eq]); unfold jsz; (repeat' split) <;> omega))⟩, rfl⟩)
    · refine Jz_iconst 1 dX0_shiftZ_12 (by decide) (fun y12 he12 => ?_)
      refine J_goto (tgt := 26) dX0_shiftZ_13 (by decide) ?_
      exact J_ret (r := some (.int _)) dX0_shiftZ_26 ⟨rfl, _, rfl, rfl⟩ (⟨⟨_, rfl, (j_rng _).1, (j_rng _).2, (by first | ((try simp only [he12.eq, true_and, and_true]) <;> omega) | ((try simp only [he12.eq]); unfold jsz; (repeat' split) <;> omega))⟩, rfl⟩)
  · refine Jz_iconst 0 dX0_shiftZ_5 (by decide) (fun y5 he5 => ?_)
    exact J_ret (r := some (.int _)) dX0_shiftZ_6 ⟨rfl, _, rfl, rfl⟩ (⟨⟨_, rfl, (j_rng _).1, (j_rng _).2, (by first | ((try simp only [he5.eq, true_and, and_true]) <;> omega) | ((try simp only [he5.eq]); unfold jsz; (repeat' split) <;> omega))⟩, rfl⟩)
set_option maxRecDepth 100000 in
set_option maxHeartbeats 8000000 in
theorem w_X0_opposite_z {tS : jTS} (d : Nat) (V0 : jH) (x0 : Int32) (x1 : Int32) (hd : 1 ≤ d)  (hp0 : 0 ≤ x0.toInt) (hp1 : x0.toInt ≤ 3) (hp2 : 0 ≤ x1.toInt) (hp3 : x1.toInt < jdir x0.toInt) : jTot tS mX0_opposite d [.int x0, .int x1] V0 0 0 (fun r V => (fun r _ => ∃ y : Int32, r = some (.int y) ∧ ((-2147483648) ≤ y.toInt) ∧ (y.toInt ≤ 2147483647) ∧ (y.toInt = jopp x0.toInt x1.toInt)) r V ∧ V = V0) := by
  refine jTot.of_J [some (.int x0), some (.int x1), none] moX0_opposite (Nat.le_of_ble_eq_true rfl) rfl ?_
  have hrx0 := j_rng x0
  have hrx1 := j_rng x1
  have hjd := jdir_cases x0.toInt
  refine J_iload_n dX0_opposite_0 rfl ?_
  refine Jz_iconst 2 dX0_opposite_1 (by decide) (fun y1 he1 => ?_)
  refine Jz_icmp_ne (tgt := 18) jEq.rf he1 dX0_opposite_2 (by decide) (fun c2 => ?_) (fun c2 => ?_)
  · refine J_iload_n dX0_opposite_18 rfl ?_
    refine J_callS1 moX0_directions jw_ml_X0_9 jw_st_X0_directions dX0_opposite_19 (w_X0_directions_z (d - 1) _ x0 (by omega)   ) (by omega) (Nat.zero_le _) (Nat.zero_le _) (Nat.le_of_ble_eq_true rfl) (fun r19 V19 h19 => ?_)
    obtain ⟨⟨y19, rfl, hl19, hh19, hP19_0⟩, hE19⟩ := h19
    have hE19 := hE19.symm
    subst hE19
    have hz19 : jEq y19.toInt (jdir (x0.toInt)) := hP19_0
    simp only [hP19_0] at hl19 hh19
    clear hP19_0
    refine Jz_iconst 2 dX0_opposite_22 (by decide) (fun y22 he22 => ?_)
    refine Jz_idivC hz19 he22 dX0_opposite_23 (by omega) (by omega) (fun y23 he23 => ?_)
    refine J_istore_n dX0_opposite_24 rfl (by decide) ?_
    refine J_iload_n dX0_opposite_25 rfl ?_
    refine J_iload_n dX0_opposite_26 rfl ?_
    refine Jz_icmp_ge (tgt := 36) jEq.rf he23 dX0_opposite_27 (by decide) (fun c27 => ?_) (fun c27 => ?_)
    · refine J_iload_n dX0_opposite_36 rfl ?_
      refine J_iload_n dX0_opposite_37 rfl ?_
      refine Jz_isub jEq.rf he23 dX0_opposite_38 (by omega) (by omega) (fun y38 he38 => ?_)
      exact J_ret (r := some (.int _)) dX0_opposite_39 ⟨rfl, _, rfl, rfl⟩ (⟨⟨_, rfl, (j_rng _).1, (j_rng _).2, (by first | ((try simp only [he38.eq, true_and, and_true]) <;> omega) | ((try simp only [he38.eq]); unfold jopp; (repeat' split) <;> omega))⟩, rfl⟩)
    · refine J_iload_n dX0_opposite_30 rfl ?_
      refine J_iload_n dX0_opposite_31 rfl ?_
      refine Jz_iadd jEq.rf he23 dX0_opposite_32 (by omega) (by omega) (fun y32 he32 => ?_)
      refine J_goto (tgt := 39) dX0_opposite_33 (by decide) ?_
      exact J_ret (r := some (.int _)) dX0_opposite_39 ⟨rfl, _, rfl, rfl⟩ (⟨⟨_, rfl, (j_rng _).1, (j_rng _).2, (by first | ((try simp only [he32.eq, true_and, and_true]) <;> omega) | ((try simp only [he32.eq]); unfold jopp; (repeat' split) <;> omega))⟩, rfl⟩)
  · refine J_iload_n dX0_opposite_5 rfl ?_
    refine Jz_iconst 2 dX0_opposite_6 (by decide) (fun y6 he6 => ?_)
    refine Jz_icmp_ne (tgt := 14) jEq.rf he6 dX0_opposite_7 (by decide) (fun c7 => ?_) (fun c7 => ?_)
    · refine Jz_iconst 1 dX0_opposite_14 (by decide) (fun y14 he14 => ?_)
      refine J_iload_n dX0_opposite_15 rfl ?_
      refine Jz_isub he14 jEq.rf dX0_opposite_16 (by omega) (by omega) (fun y16 he16 => ?_)
      exact J_ret (r := some (.int _)) dX0_opposite_17 ⟨rfl, _, rfl, rfl⟩ (⟨⟨_, rfl, (j_rng _).1, (j_rng _).2, (by first | ((try simp only [he16.eq, true_and, and_true]) <;> omega) | ((try simp only [he16.eq]); unfold jopp; (repeat' split) <;> omega))⟩, rfl⟩)
    · refine Jz_iconst 2 dX0_opposite_10 (by decide) (fun y10 he10 => ?_)
      refine J_goto (tgt := 17) dX0_opposite_11 (by decide) ?_
      exact J_ret (r := some (.int _)) dX0_opposite_17 ⟨rfl, _, rfl, rfl⟩ (⟨⟨_, rfl, (j_rng _).1, (j_rng _).2, (by first | ((try simp only [he10.eq, true_and, and_true]) <;> omega) | ((try simp only [he10.eq]); unfold jopp; (repeat' split) <;> omega))⟩, rfl⟩)
set_option maxRecDepth 100000 in
set_option maxHeartbeats 8000000 in
theorem w_X0_turns_z {tS : jTS} (d : Nat) (V0 : jH) (x0 : Int32) (hd : 0 ≤ d)  (hp0 : 0 ≤ x0.toInt) (hp1 : x0.toInt ≤ 3) : jTot tS mX0_turns d [.int x0] V0 0 0 (fun r V => (fun r _ => ∃ y : Int32, r = some (.int y) ∧ ((-2147483648) ≤ y.toInt) ∧ (y.toInt ≤ 2147483647) ∧ (y.toInt = jtur x0.toInt)) r V ∧ V = V0) := by
  refine jTot.of_J [some (.int x0)] moX0_turns (Nat.le_of_ble_eq_true rfl) rfl ?_
  have hrx0 := j_rng x0
  refine J_iload_n dX0_turns_0 rfl ?_
  rcases jsw3 x0 with hx1 | hx1 | hx1 | hx1 | hx1 | hx1
  · have hx1t : x0.toInt = 0 := by rw [hx1]; rfl
    clear hx1
    refine J_tableIn (tgt := 32) dX0_turns_1 (by omega) (by omega) (by rw [hx1t]; rfl) (by decide) ?_
    refine Jz_bipush 8 dX0_turns_32 (by decide) (fun y32 he32 => ?_)
    exact J_ret (r := some (.int _)) dX0_turns_34 ⟨rfl, _, rfl, rfl⟩ (⟨⟨_, rfl, (j_rng _).1, (j_rng _).2, (by first | ((try simp only [he32.eq, true_and, and_true]) <;> omega) | ((try simp only [he32.eq]); unfold jtur; (repeat' split) <;> omega))⟩, rfl⟩)
  · have hx1t : x0.toInt = 1 := by rw [hx1]; rfl
    clear hx1
    refine J_tableIn (tgt := 35) dX0_turns_1 (by omega) (by omega) (by rw [hx1t]; rfl) (by decide) ?_
    refine Jz_bipush 12 dX0_turns_35 (by decide) (fun y35 he35 => ?_)
    exact J_ret (r := some (.int _)) dX0_turns_37 ⟨rfl, _, rfl, rfl⟩ (⟨⟨_, rfl, (j_rng _).1, (j_rng _).2, (by first | ((try simp only [he35.eq, true_and, and_true]) <;> omega) | ((try simp only [he35.eq]); unfold jtur; (repeat' split) <;> omega))⟩, rfl⟩)
  · have hx1t : x0.toInt = 2 := by rw [hx1]; rfl
    clear hx1
    refine J_tableIn (tgt := 41) dX0_turns_1 (by omega) (by omega) (by rw [hx1t]; rfl) (by decide) ?_
    refine Jz_iconst 0 dX0_turns_41 (by decide) (fun y41 he41 => ?_)
    exact J_ret (r := some (.int _)) dX0_turns_42 ⟨rfl, _, rfl, rfl⟩ (⟨⟨_, rfl, (j_rng _).1, (j_rng _).2, (by first | ((try simp only [he41.eq, true_and, and_true]) <;> omega) | ((try simp only [he41.eq]); unfold jtur; (repeat' split) <;> omega))⟩, rfl⟩)
  · have hx1t : x0.toInt = 3 := by rw [hx1]; rfl
    clear hx1
    refine J_tableIn (tgt := 38) dX0_turns_1 (by omega) (by omega) (by rw [hx1t]; rfl) (by decide) ?_
    refine Jz_bipush 48 dX0_turns_38 (by decide) (fun y38 he38 => ?_)
    exact J_ret (r := some (.int _)) dX0_turns_40 ⟨rfl, _, rfl, rfl⟩ (⟨⟨_, rfl, (j_rng _).1, (j_rng _).2, (by first | ((try simp only [he38.eq, true_and, and_true]) <;> omega) | ((try simp only [he38.eq]); unfold jtur; (repeat' split) <;> omega))⟩, rfl⟩)
  · refine J_tableOut (tgt := 41) dX0_turns_1 (Or.inl hx1) (by decide) ?_
    refine Jz_iconst 0 dX0_turns_41 (by decide) (fun y41 he41 => ?_)
    exact J_ret (r := some (.int _)) dX0_turns_42 ⟨rfl, _, rfl, rfl⟩ (⟨⟨_, rfl, (j_rng _).1, (j_rng _).2, (by first | ((try simp only [he41.eq, true_and, and_true]) <;> omega) | ((try simp only [he41.eq]); unfold jtur; (repeat' split) <;> omega))⟩, rfl⟩)
  · refine J_tableOut (tgt := 41) dX0_turns_1 (Or.inr hx1) (by decide) ?_
    refine Jz_iconst 0 dX0_turns_41 (by decide) (fun y41 he41 => ?_)
    exact J_ret (r := some (.int _)) dX0_turns_42 ⟨rfl, _, rfl, rfl⟩ (⟨⟨_, rfl, (j_rng _).1, (j_rng _).2, (by first | ((try simp only [he41.eq, true_and, and_true]) <;> omega) | ((try simp only [he41.eq]); unfold jtur; (repeat' split) <;> omega))⟩, rfl⟩)
set_option maxRecDepth 100000 in
set_option maxHeartbeats 8000000 in
theorem w_X0_isTurn_z {tS : jTS} (d : Nat) (V0 : jH) (x0 : Int32) (x1 : Int32) (hd : 1 ≤ d)  (hp0 : 0 ≤ x0.toInt) (hp1 : x0.toInt ≤ 3) : jTot tS mX0_isTurn d [.int x0, .int x1] V0 0 0 (fun r V => (fun r _ => ∃ y : Int32, r = some (.int y) ∧ (0 ≤ y.toInt) ∧ (y.toInt ≤ 1) ∧ ((y.toInt = 1 ∧ 0 ≤ x1.toInt ∧ x1.toInt < jtur x0.toInt) ∨ (y.toInt = 0 ∧ ¬ (0 ≤ x1.toInt ∧ x1.toInt < jtur x0.toInt)))) r V ∧ V = V0) := by
  refine jTot.of_J [some (.int x0), some (.int x1)] moX0_isTurn (Nat.le_of_ble_eq_true rfl) rfl ?_
  have hrx0 := j_rng x0
  have hrx1 := j_rng x1
  refine J_iload_n dX0_isTurn_0 rfl ?_
  refine Jz_if_lt (tgt := 16) jEq.rf dX0_isTurn_1 (by decide) (fun c1 => ?_) (fun c1 => ?_)
  · refine Jz_iconst 0 dX0_isTurn_16 (by decide) (fun y16 he16 => ?_)
    exact J_ret (r := some (.int _)) dX0_isTurn_17 ⟨rfl, _, rfl, (nar_b (by (try simp only [he16.eq, true_and, and_true]) <;> omega) (by (try simp only [he16.eq, true_and, and_true]) <;> omega))⟩ (⟨⟨_, rfl, (by (try simp only [he16.eq, true_and, and_true]) <;> omega), (by (try simp only [he16.eq, true_and, and_true]) <;> omega), (by (try simp only [he16.eq, true_and, and_true]) <;> omega)⟩, rfl⟩)
  · refine J_iload_n dX0_isTurn_4 rfl ?_
    refine J_iload_n dX0_isTurn_5 rfl ?_
    refine J_callS1 moX0_turns jw_ml_X0_15 jw_st_X0_turns dX0_isTurn_6 (w_X0_turns_z (d - 1) _ x0 (by omega)   (by omega) (by omega)) (by omega) (Nat.zero_le _) (Nat.zero_le _) (Nat.le_of_ble_eq_true rfl) (fun r6 V6 h6 => ?_)
    obtain ⟨⟨y6, rfl, hl6, hh6, hP6_0⟩, hE6⟩ := h6
    have hE6 := hE6.symm
    subst hE6
    clear hl6 hh6
    have hz6 : jEq y6.toInt (jtur (x0.toInt)) := hP6_0
    clear hP6_0
    refine Jz_icmp_ge (tgt := 16) jEq.rf hz6 dX0_isTurn_9 (by decide) (fun c9 => ?_) (fun c9 => ?_)
    · refine Jz_iconst 0 dX0_isTurn_16 (by decide) (fun y16 he16 => ?_)
      exact J_ret (r := some (.int _)) dX0_isTurn_17 ⟨rfl, _, rfl, (nar_b (by (try simp only [he16.eq, true_and, and_true]) <;> omega) (by (try simp only [he16.eq, true_and, and_true]) <;> omega))⟩ (⟨⟨_, rfl, (by (try simp only [he16.eq, true_and, and_true]) <;> omega), (by (try simp only [he16.eq, true_and, and_true]) <;> omega), (by (try simp only [he16.eq, true_and, and_true]) <;> omega)⟩, rfl⟩)
    · refine Jz_iconst 1 dX0_isTurn_12 (by decide) (fun y12 he12 => ?_)
      refine J_goto (tgt := 17) dX0_isTurn_13 (by decide) ?_
      exact J_ret (r := some (.int _)) dX0_isTurn_17 ⟨rfl, _, rfl, (nar_b (by (try simp only [he12.eq, true_and, and_true]) <;> omega) (by (try simp only [he12.eq, true_and, and_true]) <;> omega))⟩ (⟨⟨_, rfl, (by (try simp only [he12.eq, true_and, and_true]) <;> omega), (by (try simp only [he12.eq, true_and, and_true]) <;> omega), (by (try simp only [he12.eq, true_and, and_true]) <;> omega)⟩, rfl⟩)
