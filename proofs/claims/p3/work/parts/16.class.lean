theorem w_X6_cell_x {tS : jTS} (d : Nat) (V0 : jH) {t n : Nat} {f : Nat → Int32} (a : Nat) (x : Int32) (hA : V0 a = some (.inl (t, n, .inl f))) (hN : n < 2 ^ 31) (ht : jT[t]? = some .int) (h0 : 0 ≤ x.toInt) (h1 : x.toInt < (n : Int)) : jTot tS mX6_cell d [.ref a, .int x] V0 0 0 (fun r V => (∃ y : Int32, r = some (.int y) ∧ f x.toInt.toNat = y) ∧ V = V0) := by
  refine jTot.of_J [some (.ref a), some (.int x)] moX6_cell (Nat.le_of_ble_eq_true rfl) rfl ?_
  refine J_aload_n dX6_cell_0 rfl ?_
  refine J_ifnull dX6_cell_1 ?_
  refine J_iload_n dX6_cell_4 rfl ?_
  refine J_if_lt (tgt := 20) dX6_cell_5 (by decide) (fun c => absurd c (by rw [jlt, Int32.toInt_zero]; omega)) (fun _ => ?_)
  refine J_iload_n dX6_cell_8 rfl ?_
  refine J_aload_n dX6_cell_9 rfl ?_
  refine J_alen (v := Int32.ofNat n) dX6_cell_10 hA ht rfl ?_
  refine J_icmp_ge (tgt := 20) dX6_cell_11 (by decide) (fun c => absurd c (by rw [jle, jn_len hN]; omega)) (fun _ => ?_)
  refine J_aload_n dX6_cell_14 rfl ?_
  refine J_iload_n dX6_cell_15 rfl ?_
  refine J_iald dX6_cell_16 hA ht (vp_in_n h0 h1) ?_
  refine J_goto (tgt := 21) dX6_cell_17 (by decide) ?_
  exact J_ret (r := some (.int _)) dX6_cell_21 ⟨rfl, _, rfl, rfl⟩ ⟨⟨_, rfl, rfl⟩, rfl⟩
theorem w_X6_put_x {tS : jTS} (d : Nat) (V0 : jH) {f : Nat → Int32} (a : Nat) (x y : Int32) (hW : WT V0) (hA : V0 a = some (.inl (9, 7, .inl f))) (h0 : 0 ≤ x.toInt) (h1 : x.toInt < 7) (hy : ¬ y.toInt = -1) : jTot tS mX6_put d [.ref a, .int x, .int y] V0 0 0 (fun r V => r = none ∧ WT V ∧ jeff [.inl 9] V0 V ∧ jle9 V0 V ∧ ∃ G : Nat → Int32, V a = some (.inl (9, 7, .inl G)) ∧ G x.toInt.toNat = y ∧ ((f x.toInt.toNat).toInt = -1 → jcn (-1) G 7 = jcn (-1) f 7 + 1)) := by
  refine jTot.of_J [some (.ref a), some (.int x), some (.int y)] moX6_put (Nat.le_of_ble_eq_true rfl) rfl ?_
  refine J_aload_n dX6_put_0 rfl ?_
  refine J_ifnull dX6_put_1 ?_
  refine J_iload_n dX6_put_4 rfl ?_
  refine J_if_lt (tgt := 18) dX6_put_5 (by decide) (fun c => absurd c (by rw [jlt, Int32.toInt_zero]; omega)) (fun _ => ?_)
  refine J_iload_n dX6_put_8 rfl ?_
  refine J_aload_n dX6_put_9 rfl ?_
  refine J_alen (v := Int32.ofNat 7) dX6_put_10 hA rfl rfl ?_
  refine J_icmp_ge (tgt := 18) dX6_put_11 (by decide) (fun c => absurd c (by rw [jle, jn_len (by decide)]; omega)) (fun _ => ?_)
  refine J_aload_n dX6_put_14 rfl ?_
  refine J_iload_n dX6_put_15 rfl ?_
  refine J_iload_n dX6_put_16 rfl ?_
  refine J_iast dX6_put_17 hA rfl (vp_in_n h0 h1) ?_
  have hG : (upd f x.toNatClampNeg y) x.toInt.toNat = y := pk_us
  have hO : ∀ k, k ≠ x.toInt.toNat → upd f x.toNatClampNeg y k = f k := fun k hk => pk_un hk
  generalize upd f x.toNatClampNeg y = G at hG hO ⊢
  have hW0 := hW a _ id hA
  have hWn : WT (jup V0 a (.inl (9, 7, .inl G))) := hW.put hA jrel.arr (fun _ => ⟨hW0.1, hW0.2.1, G, rfl, fun j _ => j_rng _⟩)
  have hy2 : ¬ (G x.toInt.toNat).toInt = -1 := by rw [hG]; exact hy
  refine J_ret (r := none) dX6_put_18 ⟨rfl, rfl⟩ ⟨rfl, hWn, jeff.put hA jrel.arr List.mem_cons_self, fun b h q => ?_, G, jup_self, hG, fun hm => jcn_up hm hy2 hO 7 (by omega)⟩
  by_cases hb : b = a
  · subst hb
    cases q.symm.trans hA
    exact ⟨G, jup_self, jcn_ge hy2 hO 7⟩
  · exact ⟨h, (jup_ne hb).trans q, Nat.le_refl _⟩
theorem w_X6_cell_q {tS : jTS} (d : Nat) (V0 : jH) {t n : Nat} {f : Nat → Int32} (a : Nat) (x : Int32) (hA : V0 a = some (.inl (t, n, .inl f))) (hN : n < 2 ^ 31) (ht : jT[t]? = some .int) (h0 : 0 ≤ x.toInt) : jTot tS mX6_cell d [.ref a, .int x] V0 0 0 (fun r V => (∃ y : Int32, r = some (.int y) ∧ (x.toInt < (n : Int) → f x.toInt.toNat = y)) ∧ V = V0) := by
  refine jTot.of_J [some (.ref a), some (.int x)] moX6_cell (Nat.le_of_ble_eq_true rfl) rfl ?_
  refine J_aload_n dX6_cell_0 rfl ?_
  refine J_ifnull dX6_cell_1 ?_
  refine J_iload_n dX6_cell_4 rfl ?_
  refine J_if_lt (tgt := 20) dX6_cell_5 (by decide) (fun c => absurd c (by rw [jlt, Int32.toInt_zero]; omega)) (fun _ => ?_)
  refine J_iload_n dX6_cell_8 rfl ?_
  refine J_aload_n dX6_cell_9 rfl ?_
  refine J_alen (v := Int32.ofNat n) dX6_cell_10 hA ht rfl ?_
  refine J_icmp_ge (tgt := 20) dX6_cell_11 (by decide) (fun c => ?_) (fun c => ?_)
  · rw [jle, jn_len hN] at c
    refine J_iconst (v := 0) dX6_cell_20 (by decide) ?_
    exact J_ret (r := some (.int _)) dX6_cell_21 ⟨rfl, _, rfl, rfl⟩ ⟨⟨_, rfl, fun h => absurd h (by omega)⟩, rfl⟩
  · rw [jle, jn_len hN] at c
    refine J_aload_n dX6_cell_14 rfl ?_
    refine J_iload_n dX6_cell_15 rfl ?_
    refine J_iald dX6_cell_16 hA ht (vp_in_n h0 (by omega)) ?_
    refine J_goto (tgt := 21) dX6_cell_17 (by decide) ?_
    exact J_ret (r := some (.int _)) dX6_cell_21 ⟨rfl, _, rfl, rfl⟩ ⟨⟨_, rfl, fun _ => rfl⟩, rfl⟩
theorem w_X6_put_z {tS : jTS} {t n : Nat} (d : Nat) (V0 : jH) {f : Nat → Int32} (a : Nat) (x y : Int32) (hW : WT V0) (hA : V0 a = some (.inl (t, n, .inl f))) (hN : n < 2 ^ 31) (hc : jAc t = .inl (-2147483648, 2147483647)) (ht : jT[t]? = some .int) (h0 : 0 ≤ x.toInt) : jTot tS mX6_put d [.ref a, .int x, .int y] V0 0 0 (fun r V => r = none ∧ WT V ∧ jeff [.inl t] V0 V ∧ (∀ b : Nat, b ≠ a → V b = V0 b) ∧ ∃ G : Nat → Int32, V a = some (.inl (t, n, .inl G)) ∧ (x.toInt < (n : Int) → G x.toInt.toNat = y) ∧ ∀ k : Nat, k ≠ x.toInt.toNat → G k = f k) := by
  refine jTot.of_J [some (.ref a), some (.int x), some (.int y)] moX6_put (Nat.le_of_ble_eq_true rfl) rfl ?_
  refine J_aload_n dX6_put_0 rfl ?_
  refine J_ifnull dX6_put_1 ?_
  refine J_iload_n dX6_put_4 rfl ?_
  refine J_if_lt (tgt := 18) dX6_put_5 (by decide) (fun c => absurd c (by rw [jlt, Int32.toInt_zero]; omega)) (fun _ => ?_)
  refine J_iload_n dX6_put_8 rfl ?_
  refine J_aload_n dX6_put_9 rfl ?_
  refine J_alen (v := Int32.ofNat n) dX6_put_10 hA ht rfl ?_
  refine J_icmp_ge (tgt := 18) dX6_put_11 (by decide) (fun c => ?_) (fun c => ?_)
  · rw [jle, jn_len hN] at c
    exact J_ret (r := none) dX6_put_18 ⟨rfl, rfl⟩ ⟨rfl, hW, jeff.refl _ _, fun _ _ => rfl, f, hA, fun h => absurd h (by omega), fun _ _ => rfl⟩
  · rw [jle, jn_len hN] at c
    refine J_aload_n dX6_put_14 rfl ?_
    refine J_iload_n dX6_put_15 rfl ?_
    refine J_iload_n dX6_put_16 rfl ?_
    refine Jz_iastB (r := (-2147483648, 2147483647)) jEq.rf jEq.rf hW id dX6_put_17 hA ht hc h0 (by omega) (j_rng _).1 (j_rng _).2 (fun V' G hW' hx hA' hp ho hB => ?_)
    exact J_ret (r := none) dX6_put_18 ⟨rfl, rfl⟩ ⟨rfl, hW', hx, hB, G, hA', fun _ => hp, ho⟩
theorem w_X6_rowOf_in {tS : jTS} (d : Nat) (V0 : jH) (a0 : Nat) (x1 : Int32) {fs : List Value} {md : Nat} {k : Int32} {f : Nat → Option Nat} {ro : Nat} (hO : V0 a0 = some (.inr (4, fs))) (h0 : fs[0]? = some (.ref md)) (h1 : fs[1]? = some (.int k)) (hA : V0 md = some (.inl (4, 16, .inr (.inr (.inr (.inr f)))))) (hx0 : 0 ≤ x1.toInt) (hx1 : x1.toInt < k.toInt) (hx2 : x1.toInt < 16) (hf : f x1.toInt.toNat = some ro) : jTot tS mX6_rowOf d [.ref a0, .int x1] V0 0 0 (fun r V => r = some (.ref ro) ∧ V = V0) := by
  refine jTot.of_J [some (.ref a0), some (.int x1)] moX6_rowOf (Nat.le_of_ble_eq_true rfl) rfl ?_
  refine J_iload_n dX6_rowOf_0 rfl ?_
  refine J_if_lt (tgt := 30) dX6_rowOf_1 (by decide) (fun c => absurd c (by rw [jlt, Int32.toInt_zero]; omega)) (fun _ => ?_)
  refine J_iload_n dX6_rowOf_4 rfl ?_
  refine J_aload_n dX6_rowOf_5 rfl ?_
  refine J_get jf_X6_15 dX6_rowOf_6 hO h1 ?_
  refine J_icmp_ge (tgt := 30) dX6_rowOf_9 (by decide) (fun c => absurd c (by rw [jle]; omega)) (fun _ => ?_)
  refine J_iload_n dX6_rowOf_12 rfl ?_
  refine J_aload_n dX6_rowOf_13 rfl ?_
  refine J_get jf_X6_11 dX6_rowOf_14 hO h0 ?_
  refine J_alen (v := Int32.ofNat 16) dX6_rowOf_17 hA rfl rfl ?_
  refine J_icmp_ge (tgt := 30) dX6_rowOf_18 (by decide) (fun c => absurd c (by rw [jle, jn_len (by decide)]; omega)) (fun _ => ?_)
  refine J_aload_n dX6_rowOf_21 rfl ?_
  refine J_get jf_X6_11 dX6_rowOf_22 hO h0 ?_
  refine J_iload_n dX6_rowOf_25 rfl ?_
  refine J_aald dX6_rowOf_26 (t := 4) rfl hA (vp_in_n hx0 hx2) ?_
  rw [show f x1.toNatClampNeg = some ro from hf, show va_rf (some ro) = Value.ref ro from rfl]
  refine J_goto (tgt := 31) dX6_rowOf_27 (by decide) ?_
  exact J_ret (r := some (.ref _)) dX6_rowOf_31 ⟨rfl, _, rfl, Or.inl ⟨_, rfl⟩⟩ ⟨rfl, rfl⟩
theorem w_X6_rowOf_out {tS : jTS} (d : Nat) (V0 : jH) (a0 : Nat) (x1 : Int32) {fs : List Value} {k : Int32} (hO : V0 a0 = some (.inr (4, fs))) (h1 : fs[1]? = some (.int k)) (hx : ¬ (0 ≤ x1.toInt ∧ x1.toInt < k.toInt)) : jTot tS mX6_rowOf d [.ref a0, .int x1] V0 0 0 (fun r V => r = some .null ∧ V = V0) := by
  refine jTot.of_J [some (.ref a0), some (.int x1)] moX6_rowOf (Nat.le_of_ble_eq_true rfl) rfl ?_
  refine J_iload_n dX6_rowOf_0 rfl ?_
  refine J_if_lt (tgt := 30) dX6_rowOf_1 (by decide) (fun c => ?_) (fun c => ?_)
  · refine J_null dX6_rowOf_30 ?_
    exact J_ret (r := some .null) dX6_rowOf_31 ⟨rfl, _, rfl, Or.inl ⟨_, rfl⟩⟩ ⟨rfl, rfl⟩
  · rw [jlt, Int32.toInt_zero] at c
    refine J_iload_n dX6_rowOf_4 rfl ?_
    refine J_aload_n dX6_rowOf_5 rfl ?_
    refine J_get jf_X6_15 dX6_rowOf_6 hO h1 ?_
    refine J_icmp_ge (tgt := 30) dX6_rowOf_9 (by decide) (fun c => ?_) (fun c2 => absurd c2 (fun q => q (by rw [jle]; omega)))
    refine J_null dX6_rowOf_30 ?_
    exact J_ret (r := some .null) dX6_rowOf_31 ⟨rfl, _, rfl, Or.inl ⟨_, rfl⟩⟩ ⟨rfl, rfl⟩
set_option maxRecDepth 100000 in
set_option maxHeartbeats 4000000 in
theorem w_J13_bitCount_95d88_z {tS : jTS} (d : Nat) (V0 : jH) (x0 : Int64)  (hd : 0 ≤ d)    : jTot tS mJ13_bitCount_95d88 d [.long x0] V0 0 0 (fun r V => (fun r _ => ∃ y : Int32, r = some (.int y) ∧ ((-2147483648) ≤ y.toInt) ∧ (y.toInt ≤ 2147483647) ∧ (y.toInt = ((jsum (fun n => (jbt x0 n).toNat) 64 : Nat) : Int))) r V ∧ V = V0) := by
  refine jTot.of_J [some (.long x0), none] moJ13_bitCount_95d88 (Nat.le_of_ble_eq_true rfl) rfl ?_
  refine J_lload_n dJ13_bitCount_95d88_0 rfl ?_
  refine J_lload_n dJ13_bitCount_95d88_1 rfl ?_
  refine J_iconst (v := 1) dJ13_bitCount_95d88_2 (by decide) ?_
  refine J_lushr dJ13_bitCount_95d88_3 rfl ?_
  refine J_ldc2 jw_k_J13_314 dJ13_bitCount_95d88_4 ?_
  refine J_land dJ13_bitCount_95d88_7 ?_
  refine J_lsub dJ13_bitCount_95d88_8 ?_
  refine J_lstore_n dJ13_bitCount_95d88_9 rfl (by decide) ?_
  refine J_lload_n dJ13_bitCount_95d88_10 rfl ?_
  refine J_ldc2 jw_k_J13_316 dJ13_bitCount_95d88_11 ?_
  refine J_land dJ13_bitCount_95d88_14 ?_
  refine J_lload_n dJ13_bitCount_95d88_15 rfl ?_
  refine J_iconst (v := 2) dJ13_bitCount_95d88_16 (by decide) ?_
  refine J_lushr dJ13_bitCount_95d88_17 rfl ?_
  refine J_ldc2 jw_k_J13_316 dJ13_bitCount_95d88_18 ?_
  refine J_land dJ13_bitCount_95d88_21 ?_
  refine J_ladd dJ13_bitCount_95d88_22 ?_
  refine J_lstore_n dJ13_bitCount_95d88_23 rfl (by decide) ?_
  refine J_lload_n dJ13_bitCount_95d88_24 rfl ?_
  refine J_lload_n dJ13_bitCount_95d88_25 rfl ?_
  refine J_iconst (v := 4) dJ13_bitCount_95d88_26 (by decide) ?_
  refine J_lushr dJ13_bitCount_95d88_27 rfl ?_
  refine J_ladd dJ13_bitCount_95d88_28 ?_
  refine J_ldc2 jw_k_J13_318 dJ13_bitCount_95d88_29 ?_
  refine J_land dJ13_bitCount_95d88_32 ?_
  refine J_lstore_n dJ13_bitCount_95d88_33 rfl (by decide) ?_
  refine J_lload_n dJ13_bitCount_95d88_34 rfl ?_
  refine J_lload_n dJ13_bitCount_95d88_35 rfl ?_
  refine J_bipush (v := 8) dJ13_bitCount_95d88_36 (by decide) ?_
  refine J_lushr dJ13_bitCount_95d88_38 rfl ?_
  refine J_ladd dJ13_bitCount_95d88_39 ?_
  refine J_lstore_n dJ13_bitCount_95d88_40 rfl (by decide) ?_
  refine J_lload_n dJ13_bitCount_95d88_41 rfl ?_
  refine J_lload_n dJ13_bitCount_95d88_42 rfl ?_
  refine J_bipush (v := 16) dJ13_bitCount_95d88_43 (by decide) ?_
  refine J_lushr dJ13_bitCount_95d88_45 rfl ?_
  refine J_ladd dJ13_bitCount_95d88_46 ?_
  refine J_lstore_n dJ13_bitCount_95d88_47 rfl (by decide) ?_
  refine J_lload_n dJ13_bitCount_95d88_48 rfl ?_
  refine J_lload_n dJ13_bitCount_95d88_49 rfl ?_
  refine J_bipush (v := 32) dJ13_bitCount_95d88_50 (by decide) ?_
  refine J_lushr dJ13_bitCount_95d88_52 rfl ?_
  refine J_ladd dJ13_bitCount_95d88_53 ?_
  refine J_lstore_n dJ13_bitCount_95d88_54 rfl (by decide) ?_
  refine J_lload_n dJ13_bitCount_95d88_55 rfl ?_
  refine J_l2i dJ13_bitCount_95d88_56 rfl ?_
  refine J_bipush (v := 127) dJ13_bitCount_95d88_57 (by decide) ?_
  refine J_iand dJ13_bitCount_95d88_59 ?_
  exact J_ret (r := some (.int _)) dJ13_bitCount_95d88_60 ⟨rfl, _, rfl, rfl⟩ (⟨⟨_, rfl, (j_rng _).1, (j_rng _).2, jbc x0⟩, rfl⟩)
set_option maxRecDepth 100000 in
set_option maxHeartbeats 4000000 in
theorem w_X0_turnedInCubes_z {tS : jTS} (d : Nat) (V0 : jH) (x0 : Int32) (x1 : Int32)  (hd : 0 ≤ d)    (hp0 : 0 ≤ x0.toInt) (hp1 : x0.toInt < 48) (hp2 : 0 ≤ x1.toInt) (hp3 : x1.toInt < 6) : jTot tS mX0_turnedInCubes d [.int x0, .int x1] V0 0 0 (fun r V => (fun r _ => ∃ y : Int32, r = some (.int y) ∧ ((-2147483648) ≤ y.toInt) ∧ (y.toInt ≤ 2147483647) ∧ (y.toInt = jtc x0.toInt x1.toInt)) r V ∧ V = V0) := by
  refine jTot.of_J [some (.int x0), some (.int x1), none, none, none, none, none] moX0_turnedInCubes (Nat.le_of_ble_eq_true rfl) rfl ?_
  refine J_iload_n dX0_turnedInCubes_0 rfl ?_
  refine J_iconst (v := 3) dX0_turnedInCubes_1 (by decide) ?_
  refine J_icmp_ge (tgt := 9) dX0_turnedInCubes_2 (by decide) (fun c2 => ?_) (fun c2 => ?_)
  · refine J_iload_n dX0_turnedInCubes_9 rfl ?_
    refine J_iconst (v := 3) dX0_turnedInCubes_10 (by decide) ?_
    refine J_isub dX0_turnedInCubes_11 ?_
    refine J_istore_n dX0_turnedInCubes_12 rfl (by decide) ?_
    refine J_iload_n dX0_turnedInCubes_13 rfl ?_
    refine J_iconst (v := 3) dX0_turnedInCubes_14 (by decide) ?_
    refine J_icmp_lt (tgt := 22) dX0_turnedInCubes_15 (by decide) (fun c15 => ?_) (fun c15 => ?_)
    · refine J_iconst (v := 0) dX0_turnedInCubes_22 (by decide) ?_
      refine J_istore_n dX0_turnedInCubes_23 rfl (by decide) ?_
      refine J_iload_n dX0_turnedInCubes_24 rfl ?_
      refine J_bipush (v := 7) dX0_turnedInCubes_25 (by decide) ?_
      refine J_iand dX0_turnedInCubes_27 ?_
      refine J_iload_n dX0_turnedInCubes_28 rfl ?_
      refine J_ishr dX0_turnedInCubes_29 ?_
      refine J_iconst (v := 1) dX0_turnedInCubes_30 (by decide) ?_
      refine J_iand dX0_turnedInCubes_31 ?_
      refine J_iconst (v := 1) dX0_turnedInCubes_32 (by decide) ?_
      refine J_icmp_ne (tgt := 40) dX0_turnedInCubes_33 (by decide) (fun c33 => ?_) (fun c33 => ?_)
      · refine J_iconst (v := 0) dX0_turnedInCubes_40 (by decide) ?_
        refine J_istore dX0_turnedInCubes_41 rfl (by decide) ?_
        refine J_iconst (v := 3) dX0_turnedInCubes_43 (by decide) ?_
        refine J_iload_n dX0_turnedInCubes_44 rfl ?_
        refine J_iconst (v := 3) dX0_turnedInCubes_45 (by decide) ?_
        refine J_ishr dX0_turnedInCubes_46 ?_
        refine J_imul dX0_turnedInCubes_47 ?_
        refine J_iload_n dX0_turnedInCubes_48 rfl ?_
        refine J_iadd dX0_turnedInCubes_49 ?_
        refine J_istore dX0_turnedInCubes_50 rfl (by decide) ?_
        refine J_iload dX0_turnedInCubes_52 rfl ?_
        refine J_if_lt (tgt := 75) dX0_turnedInCubes_54 (by decide) (fun c54 => ?_) (fun c54 => ?_)
        · refine J_iload_n dX0_turnedInCubes_75 rfl ?_
          refine J_istore dX0_turnedInCubes_76 rfl (by decide) ?_
          refine J_iload_n dX0_turnedInCubes_78 rfl ?_
          refine J_iload dX0_turnedInCubes_79 rfl ?_
          refine J_icmp_ne (tgt := 89) dX0_turnedInCubes_81 (by decide) (fun c81 => ?_) (fun c81 => ?_)
          · refine J_iload dX0_turnedInCubes_89 rfl ?_
            refine J_iconst (v := 3) dX0_turnedInCubes_91 (by decide) ?_
            refine J_iadd dX0_turnedInCubes_92 ?_
            exact J_ret (r := some (.int _)) dX0_turnedInCubes_93 ⟨rfl, _, rfl, rfl⟩ (⟨⟨_, rfl, (j_rng _).1, (j_rng _).2, (by have hbx0 : x0.toInt < 48 := hp1; have hbx1 : x1.toInt < 6 := hp3; obtain ⟨nx0, hnx0, rfl⟩ := jnat hp0 hbx0 (by decide); obtain ⟨nx1, hnx1, rfl⟩ := jnat hp2 hbx1 (by decide); clear hbx0 hbx1; clear hp0 hp1 hp2 hp3; have hcs := (jband (decide_eq_true c2) (jband (decide_eq_true c15) (jband (decide_eq_true c33) (jband (decide_eq_true c54) (decide_eq_true c81))))); clear c2 c15 c33 c54 c81; apply of_decide_eq_true; revert hcs; revert nx1; revert nx0; decide +kernel)⟩, rfl⟩)
          · refine J_iload dX0_turnedInCubes_84 rfl ?_
            refine J_goto (tgt := 93) dX0_turnedInCubes_86 (by decide) ?_
            exact J_ret (r := some (.int _)) dX0_turnedInCubes_93 ⟨rfl, _, rfl, rfl⟩ (⟨⟨_, rfl, (j_rng _).1, (j_rng _).2, (by have hbx0 : x0.toInt < 48 := hp1; have hbx1 : x1.toInt < 6 := hp3; obtain ⟨nx0, hnx0, rfl⟩ := jnat hp0 hbx0 (by decide); obtain ⟨nx1, hnx1, rfl⟩ := jnat hp2 hbx1 (by decide); clear hbx0 hbx1; clear hp0 hp1 hp2 hp3; have hcs := (jband (decide_eq_true c2) (jband (decide_eq_true c15) (jband (decide_eq_true c33) (jband (decide_eq_true c54) (decide_eq_true c81))))); clear c2 c15 c33 c54 c81; apply of_decide_eq_true; revert hcs; revert nx1; revert nx0; decide +kernel)⟩, rfl⟩)
        · refine J_iload dX0_turnedInCubes_57 rfl ?_
          refine J_gets (k := 2) rfl jw_fl_X0_33 dX0_turnedInCubes_59 ?_
          refine J_tlen (k := 2) rfl dX0_turnedInCubes_62 rfl ?_
          refine J_icmp_ge (tgt := 75) dX0_turnedInCubes_63 (by decide) (fun c63 => ?_) (fun c63 => ?_)
          · refine J_iload_n dX0_turnedInCubes_75 rfl ?_
            refine J_istore dX0_turnedInCubes_76 rfl (by decide) ?_
            refine J_iload_n dX0_turnedInCubes_78 rfl ?_
            refine J_iload dX0_turnedInCubes_79 rfl ?_
            refine J_icmp_ne (tgt := 89) dX0_turnedInCubes_81 (by decide) (fun c81 => ?_) (fun c81 => ?_)
            · refine J_iload dX0_turnedInCubes_89 rfl ?_
              refine J_iconst (v := 3) dX0_turnedInCubes_91 (by decide) ?_
              refine J_iadd dX0_turnedInCubes_92 ?_
              exact J_ret (r := some (.int _)) dX0_turnedInCubes_93 ⟨rfl, _, rfl, rfl⟩ (⟨⟨_, rfl, (j_rng _).1, (j_rng _).2, (by have hbx0 : x0.toInt < 48 := hp1; have hbx1 : x1.toInt < 6 := hp3; obtain ⟨nx0, hnx0, rfl⟩ := jnat hp0 hbx0 (by decide); obtain ⟨nx1, hnx1, rfl⟩ := jnat hp2 hbx1 (by decide); clear hbx0 hbx1; clear hp0 hp1 hp2 hp3; have hcs := (jband (decide_eq_true c2) (jband (decide_eq_true c15) (jband (decide_eq_true c33) (jband (decide_eq_true c54) (jband (decide_eq_true c63) (decide_eq_true c81)))))); clear c2 c15 c33 c54 c63 c81; apply of_decide_eq_true; revert hcs; revert nx1; revert nx0; decide +kernel)⟩, rfl⟩)
            · refine J_iload dX0_turnedInCubes_84 rfl ?_
              refine J_goto (tgt := 93) dX0_turnedInCubes_86 (by decide) ?_
              exact J_ret (r := some (.int _)) dX0_turnedInCubes_93 ⟨rfl, _, rfl, rfl⟩ (⟨⟨_, rfl, (j_rng _).1, (j_rng _).2, (by have hbx0 : x0.toInt < 48 := hp1; have hbx1 : x1.toInt < 6 := hp3; obtain ⟨nx0, hnx0, rfl⟩ := jnat hp0 hbx0 (by decide); obtain ⟨nx1, hnx1, rfl⟩ := jnat hp2 hbx1 (by decide); clear hbx0 hbx1; clear hp0 hp1 hp2 hp3; have hcs := (jband (decide_eq_true c2) (jband (decide_eq_true c15) (jband (decide_eq_true c33) (jband (decide_eq_true c54) (jband (decide_eq_true c63) (decide_eq_true c81)))))); clear c2 c15 c33 c54 c63 c81; apply of_decide_eq_true; revert hcs; revert nx1; revert nx0; decide +kernel)⟩, rfl⟩)
          · refine J_gets (k := 2) rfl jw_fl_X0_33 dX0_turnedInCubes_66 ?_
            refine J_iload dX0_turnedInCubes_69 rfl ?_
            refine J_ti (k := 2) rfl rfl dX0_turnedInCubes_71 (by exact vp_in_g (by assumption) (by assumption) (by decide)) rfl ?_
            refine J_goto (tgt := 76) dX0_turnedInCubes_72 (by decide) ?_
            refine J_istore dX0_turnedInCubes_76 rfl (by decide) ?_
            refine J_iload_n dX0_turnedInCubes_78 rfl ?_
            refine J_iload dX0_turnedInCubes_79 rfl ?_
            refine J_icmp_ne (tgt := 89) dX0_turnedInCubes_81 (by decide) (fun c81 => ?_) (fun c81 => ?_)
            · refine J_iload dX0_turnedInCubes_89 rfl ?_
              refine J_iconst (v := 3) dX0_turnedInCubes_91 (by decide) ?_
              refine J_iadd dX0_turnedInCubes_92 ?_
              exact J_ret (r := some (.int _)) dX0_turnedInCubes_93 ⟨rfl, _, rfl, rfl⟩ (⟨⟨_, rfl, (j_rng _).1, (j_rng _).2, (by have hbx0 : x0.toInt < 48 := hp1; have hbx1 : x1.toInt < 6 := hp3; obtain ⟨nx0, hnx0, rfl⟩ := jnat hp0 hbx0 (by decide); obtain ⟨nx1, hnx1, rfl⟩ := jnat hp2 hbx1 (by decide); clear hbx0 hbx1; clear hp0 hp1 hp2 hp3; have hcs := (jband (decide_eq_true c2) (jband (decide_eq_true c15) (jband (decide_eq_true c33) (jband (decide_eq_true c54) (jband (decide_eq_true c63) (decide_eq_true c81)))))); clear c2 c15 c33 c54 c63 c81; apply of_decide_eq_true; revert hcs; revert nx1; revert nx0; decide +kernel)⟩, rfl⟩)
            · refine J_iload dX0_turnedInCubes_84 rfl ?_
              refine J_goto (tgt := 93) dX0_turnedInCubes_86 (by decide) ?_
              exact J_ret (r := some (.int _)) dX0_turnedInCubes_93 ⟨rfl, _, rfl, rfl⟩ (⟨⟨_, rfl, (j_rng _).1, (j_rng _).2, (by have hbx0 : x0.toInt < 48 := hp1; have hbx1 : x1.toInt < 6 := hp3; obtain ⟨nx0, hnx0, rfl⟩ := jnat hp0 hbx0 (by decide); obtain ⟨nx1, hnx1, rfl⟩ := jnat hp2 hbx1 (by decide); clear hbx0 hbx1; clear hp0 hp1 hp2 hp3; have hcs := (jband (decide_eq_true c2) (jband (decide_eq_true c15) (jband (decide_eq_true c33) (jband (decide_eq_true c54) (jband (decide_eq_true c63) (decide_eq_true c81)))))); clear c2 c15 c33 c54 c63 c81; apply of_decide_eq_true; revert hcs; revert nx1; revert nx0; decide +kernel)⟩, rfl⟩)
      · refine J_iconst (v := 1) dX0_turnedInCubes_36 (by decide) ?_
        refine J_goto (tgt := 41) dX0_turnedInCubes_37 (by decide) ?_
        refine J_istore dX0_turnedInCubes_41 rfl (by decide) ?_
        refine J_iconst (v := 3) dX0_turnedInCubes_43 (by decide) ?_
        refine J_iload_n dX0_turnedInCubes_44 rfl ?_
        refine J_iconst (v := 3) dX0_turnedInCubes_45 (by decide) ?_
        refine J_ishr dX0_turnedInCubes_46 ?_
        refine J_imul dX0_turnedInCubes_47 ?_
        refine J_iload_n dX0_turnedInCubes_48 rfl ?_
        refine J_iadd dX0_turnedInCubes_49 ?_
        refine J_istore dX0_turnedInCubes_50 rfl (by decide) ?_
        refine J_iload dX0_turnedInCubes_52 rfl ?_
        refine J_if_lt (tgt := 75) dX0_turnedInCubes_54 (by decide) (fun c54 => ?_) (fun c54 => ?_)
        · refine J_iload_n dX0_turnedInCubes_75 rfl ?_
          refine J_istore dX0_turnedInCubes_76 rfl (by decide) ?_
          refine J_iload_n dX0_turnedInCubes_78 rfl ?_
          refine J_iload dX0_turnedInCubes_79 rfl ?_
          refine J_icmp_ne (tgt := 89) dX0_turnedInCubes_81 (by decide) (fun c81 => ?_) (fun c81 => ?_)
          · refine J_iload dX0_turnedInCubes_89 rfl ?_
            refine J_iconst (v := 3) dX0_turnedInCubes_91 (by decide) ?_
            refine J_iadd dX0_turnedInCubes_92 ?_
            exact J_ret (r := some (.int _)) dX0_turnedInCubes_93 ⟨rfl, _, rfl, rfl⟩ (⟨⟨_, rfl, (j_rng _).1, (j_rng _).2, (by have hbx0 : x0.toInt < 48 := hp1; have hbx1 : x1.toInt < 6 := hp3; obtain ⟨nx0, hnx0, rfl⟩ := jnat hp0 hbx0 (by decide); obtain ⟨nx1, hnx1, rfl⟩ := jnat hp2 hbx1 (by decide); clear hbx0 hbx1; clear hp0 hp1 hp2 hp3; have hcs := (jband (decide_eq_true c2) (jband (decide_eq_true c15) (jband (decide_eq_true c33) (jband (decide_eq_true c54) (decide_eq_true c81))))); clear c2 c15 c33 c54 c81; apply of_decide_eq_true; revert hcs; revert nx1; revert nx0; decide +kernel)⟩, rfl⟩)
          · refine J_iload dX0_turnedInCubes_84 rfl ?_
            refine J_goto (tgt := 93) dX0_turnedInCubes_86 (by decide) ?_
            exact J_ret (r := some (.int _)) dX0_turnedInCubes_93 ⟨rfl, _, rfl, rfl⟩ (⟨⟨_, rfl, (j_rng _).1, (j_rng _).2, (by have hbx0 : x0.toInt < 48 := hp1; have hbx1 : x1.toInt < 6 := hp3; obtain ⟨nx0, hnx0, rfl⟩ := jnat hp0 hbx0 (by decide); obtain ⟨nx1, hnx1, rfl⟩ := jnat hp2 hbx1 (by decide); clear hbx0 hbx1; clear hp0 hp1 hp2 hp3; have hcs := (jband (decide_eq_true c2) (jband (decide_eq_true c15) (jband (decide_eq_true c33) (jband (decide_eq_true c54) (decide_eq_true c81))))); clear c2 c15 c33 c54 c81; apply of_decide_eq_true; revert hcs; revert nx1; revert nx0; decide +kernel)⟩, rfl⟩)
        · refine J_iload dX0_turnedInCubes_57 rfl ?_
          refine J_gets (k := 2) rfl jw_fl_X0_33 dX0_turnedInCubes_59 ?_
          refine J_tlen (k := 2) rfl dX0_turnedInCubes_62 rfl ?_
          refine J_icmp_ge (tgt := 75) dX0_turnedInCubes_63 (by decide) (fun c63 => ?_) (fun c63 => ?_)
          · refine J_iload_n dX0_turnedInCubes_75 rfl ?_
            refine J_istore dX0_turnedInCubes_76 rfl (by decide) ?_
            refine J_iload_n dX0_turnedInCubes_78 rfl ?_
            refine J_iload dX0_turnedInCubes_79 rfl ?_
            refine J_icmp_ne (tgt := 89) dX0_turnedInCubes_81 (by decide) (fun c81 => ?_) (fun c81 => ?_)
            · refine J_iload dX0_turnedInCubes_89 rfl ?_
              refine J_iconst (v := 3) dX0_turnedInCubes_91 (by decide) ?_
              refine J_iadd dX0_turnedInCubes_92 ?_
              exact J_ret (r := some (.int _)) dX0_turnedInCubes_93 ⟨rfl, _, rfl, rfl⟩ (⟨⟨_, rfl, (j_rng _).1, (j_rng _).2, (by have hbx0 : x0.toInt < 48 := hp1; have hbx1 : x1.toInt < 6 := hp3; obtain ⟨nx0, hnx0, rfl⟩ := jnat hp0 hbx0 (by decide); obtain ⟨nx1, hnx1, rfl⟩ := jnat hp2 hbx1 (by decide); clear hbx0 hbx1; clear hp0 hp1 hp2 hp3; have hcs := (jband (decide_eq_true c2) (jband (decide_eq_true c15) (jband (decide_eq_true c33) (jband (decide_eq_true c54) (jband (decide_eq_true c63) (decide_eq_true c81)))))); clear c2 c15 c33 c54 c63 c81; apply of_decide_eq_true; revert hcs; revert nx1; revert nx0; decide +kernel)⟩, rfl⟩)
            · refine J_iload dX0_turnedInCubes_84 rfl ?_
              refine J_goto (tgt := 93) dX0_turnedInCubes_86 (by decide) ?_
              exact J_ret (r := some (.int _)) dX0_turnedInCubes_93 ⟨rfl, _, rfl, rfl⟩ (⟨⟨_, rfl, (j_rng _).1, (j_rng _).2, (by have hbx0 : x0.toInt < 48 := hp1; have hbx1 : x1.toInt < 6 := hp3; obtain ⟨nx0, hnx0, rfl⟩ := jnat hp0 hbx0 (by decide); obtain ⟨nx1, hnx1, rfl⟩ := jnat hp2 hbx1 (by decide); clear hbx0 hbx1; clear hp0 hp1 hp2 hp3; have hcs := (jband (decide_eq_true c2) (jband (decide_eq_true c15) (jband (decide_eq_true c33) (jband (decide_eq_true c54) (jband (decide_eq_true c63) (decide_eq_true c81)))))); clear c2 c15 c33 c54 c63 c81; apply of_decide_eq_true; revert hcs; revert nx1; revert nx0; decide +kernel)⟩, rfl⟩)
          · refine J_gets (k := 2) rfl jw_fl_X0_33 dX0_turnedInCubes_66 ?_
            refine J_iload dX0_turnedInCubes_69 rfl ?_
            refine J_ti (k := 2) rfl rfl dX0_turnedInCubes_71 (by exact vp_in_g (by assumption) (by assumption) (by decide)) rfl ?_
            refine J_goto (tgt := 76) dX0_turnedInCubes_72 (by decide) ?_
            refine J_istore dX0_turnedInCubes_76 rfl (by decide) ?_
            refine J_iload_n dX0_turnedInCubes_78 rfl ?_
            refine J_iload dX0_turnedInCubes_79 rfl ?_
            refine J_icmp_ne (tgt := 89) dX0_turnedInCubes_81 (by decide) (fun c81 => ?_) (fun c81 => ?_)
            · refine J_iload dX0_turnedInCubes_89 rfl ?_
              refine J_iconst (v := 3) dX0_turnedInCubes_91 (by decide) ?_
              refine J_iadd dX0_turnedInCubes_92 ?_
              exact J_ret (r := some (.int _)) dX0_turnedInCubes_93 ⟨rfl, _, rfl, rfl⟩ (⟨⟨_, rfl, (j_rng _).1, (j_rng _).2, (by have hbx0 : x0.toInt < 48 := hp1; have hbx1 : x1.toInt < 6 := hp3; obtain ⟨nx0, hnx0, rfl⟩ := jnat hp0 hbx0 (by decide); obtain ⟨nx1, hnx1, rfl⟩ := jnat hp2 hbx1 (by decide); clear hbx0 hbx1; clear hp0 hp1 hp2 hp3; have hcs := (jband (decide_eq_true c2) (jband (decide_eq_true c15) (jband (decide_eq_true c33) (jband (decide_eq_true c54) (jband (decide_eq_true c63) (decide_eq_true c81)))))); clear c2 c15 c33 c54 c63 c81; apply of_decide_eq_true; revert hcs; revert nx1; revert nx0; decide +kernel)⟩, rfl⟩)
            · refine J_iload dX0_turnedInCubes_84 rfl ?_
              refine J_goto (tgt := 93) dX0_turnedInCubes_86 (by decide) ?_
              exact J_ret (r := some (.int _)) dX0_turnedInCubes_93 ⟨rfl, _, rfl, rfl⟩ (⟨⟨_, rfl, (j_rng _).1, (j_rng _).2, (by have hbx0 : x0.toInt < 48 := hp1; have hbx1 : x1.toInt < 6 := hp3; obtain ⟨nx0, hnx0, rfl⟩ := jnat hp0 hbx0 (by decide); obtain ⟨nx1, hnx1, rfl⟩ := jnat hp2 hbx1 (by decide); clear hbx0 hbx1; clear hp0 hp1 hp2 hp3; have hcs := (jband (decide_eq_true c2) (jband (decide_eq_true c15) (jband (decide_eq_true c33) (jband (decide_eq_true c54) (jband (decide_eq_true c63) (decide_eq_true c81)))))); clear c2 c15 c33 c54 c63 c81; apply of_decide_eq_true; revert hcs; revert nx1; revert nx0; decide +kernel)⟩, rfl⟩)
    · refine J_iconst (v := 1) dX0_turnedInCubes_18 (by decide) ?_
      refine J_goto (tgt := 23) dX0_turnedInCubes_19 (by decide) ?_
      refine J_istore_n dX0_turnedInCubes_23 rfl (by decide) ?_
      refine J_iload_n dX0_turnedInCubes_24 rfl ?_
      refine J_bipush (v := 7) dX0_turnedInCubes_25 (by decide) ?_
      refine J_iand dX0_turnedInCubes_27 ?_
      refine J_iload_n dX0_turnedInCubes_28 rfl ?_
      refine J_ishr dX0_turnedInCubes_29 ?_
      refine J_iconst (v := 1) dX0_turnedInCubes_30 (by decide) ?_
      refine J_iand dX0_turnedInCubes_31 ?_
      refine J_iconst (v := 1) dX0_turnedInCubes_32 (by decide) ?_
      refine J_icmp_ne (tgt := 40) dX0_turnedInCubes_33 (by decide) (fun c33 => ?_) (fun c33 => ?_)
      · refine J_iconst (v := 0) dX0_turnedInCubes_40 (by decide) ?_
        refine J_istore dX0_turnedInCubes_41 rfl (by decide) ?_
        refine J_iconst (v := 3) dX0_turnedInCubes_43 (by decide) ?_
        refine J_iload_n dX0_turnedInCubes_44 rfl ?_
        refine J_iconst (v := 3) dX0_turnedInCubes_45 (by decide) ?_
        refine J_ishr dX0_turnedInCubes_46 ?_
        refine J_imul dX0_turnedInCubes_47 ?_
        refine J_iload_n dX0_turnedInCubes_48 rfl ?_
        refine J_iadd dX0_turnedInCubes_49 ?_
        refine J_istore dX0_turnedInCubes_50 rfl (by decide) ?_
        refine J_iload dX0_turnedInCubes_52 rfl ?_
        refine J_if_lt (tgt := 75) dX0_turnedInCubes_54 (by decide) (fun c54 => ?_) (fun c54 => ?_)
        · refine J_iload_n dX0_turnedInCubes_75 rfl ?_
          refine J_istore dX0_turnedInCubes_76 rfl (by decide) ?_
          refine J_iload_n dX0_turnedInCubes_78 rfl ?_
          refine J_iload dX0_turnedInCubes_79 rfl ?_
          refine J_icmp_ne (tgt := 89) dX0_turnedInCubes_81 (by decide) (fun c81 => ?_) (fun c81 => ?_)
          · refine J_iload dX0_turnedInCubes_89 rfl ?_
            refine J_iconst (v := 3) dX0_turnedInCubes_91 (by decide) ?_
            refine J_iadd dX0_turnedInCubes_92 ?_
            exact J_ret (r := some (.int _)) dX0_turnedInCubes_93 ⟨rfl, _, rfl, rfl⟩ (⟨⟨_, rfl, (j_rng _).1, (j_rng _).2, (by have hbx0 : x0.toInt < 48 := hp1; have hbx1 : x1.toInt < 6 := hp3; obtain ⟨nx0, hnx0, rfl⟩ := jnat hp0 hbx0 (by decide); obtain ⟨nx1, hnx1, rfl⟩ := jnat hp2 hbx1 (by decide); clear hbx0 hbx1; clear hp0 hp1 hp2 hp3; have hcs := (jband (decide_eq_true c2) (jband (decide_eq_true c15) (jband (decide_eq_true c33) (jband (decide_eq_true c54) (decide_eq_true c81))))); clear c2 c15 c33 c54 c81; apply of_decide_eq_true; revert hcs; revert nx1; revert nx0; decide +kernel)⟩, rfl⟩)
          · refine J_iload dX0_turnedInCubes_84 rfl ?_
            refine J_goto (tgt := 93) dX0_turnedInCubes_86 (by decide) ?_
            exact J_ret (r := some (.int _)) dX0_turnedInCubes_93 ⟨rfl, _, rfl, rfl⟩ (⟨⟨_, rfl, (j_rng _).1, (j_rng _).2, (by have hbx0 : x0.toInt < 48 := hp1; have hbx1 : x1.toInt < 6 := hp3; obtain ⟨nx0, hnx0, rfl⟩ := jnat hp0 hbx0 (by decide); obtain ⟨nx1, hnx1, rfl⟩ := jnat hp2 hbx1 (by decide); clear hbx0 hbx1; clear hp0 hp1 hp2 hp3; have hcs := (jband (decide_eq_true c2) (jband (decide_eq_true c15) (jband (decide_eq_true c33) (jband (decide_eq_true c54) (decide_eq_true c81))))); clear c2 c15 c33 c54 c81; apply of_decide_eq_true; revert hcs; revert nx1; revert nx0; decide +kernel)⟩, rfl⟩)
        · refine J_iload dX0_turnedInCubes_57 rfl ?_
          refine J_gets (k := 2) rfl jw_fl_X0_33 dX0_turnedInCubes_59 ?_
          refine J_tlen (k := 2) rfl dX0_turnedInCubes_62 rfl ?_
          refine J_icmp_ge (tgt := 75) dX0_turnedInCubes_63 (by decide) (fun c63 => ?_) (fun c63 => ?_)
          · refine J_iload_n dX0_turnedInCubes_75 rfl ?_
            refine J_istore dX0_turnedInCubes_76 rfl (by decide) ?_
            refine J_iload_n dX0_turnedInCubes_78 rfl ?_
            refine J_iload dX0_turnedInCubes_79 rfl ?_
            refine J_icmp_ne (tgt := 89) dX0_turnedInCubes_81 (by decide) (fun c81 => ?_) (fun c81 => ?_)
            · refine J_iload dX0_turnedInCubes_89 rfl ?_
              refine J_iconst (v := 3) dX0_turnedInCubes_91 (by decide) ?_
              refine J_iadd dX0_turnedInCubes_92 ?_
              exact J_ret (r := some (.int _)) dX0_turnedInCubes_93 ⟨rfl, _, rfl, rfl⟩ (⟨⟨_, rfl, (j_rng _).1, (j_rng _).2, (by have hbx0 : x0.toInt < 48 := hp1; have hbx1 : x1.toInt < 6 := hp3; obtain ⟨nx0, hnx0, rfl⟩ := jnat hp0 hbx0 (by decide); obtain ⟨nx1, hnx1, rfl⟩ := jnat hp2 hbx1 (by decide); clear hbx0 hbx1; clear hp0 hp1 hp2 hp3; have hcs := (jband (decide_eq_true c2) (jband (decide_eq_true c15) (jband (decide_eq_true c33) (jband (decide_eq_true c54) (jband (decide_eq_true c63) (decide_eq_true c81)))))); clear c2 c15 c33 c54 c63 c81; apply of_decide_eq_true; revert hcs; revert nx1; revert nx0; decide +kernel)⟩, rfl⟩)
            · refine J_iload dX0_turnedInCubes_84 rfl ?_
              refine J_goto (tgt := 93) dX0_turnedInCubes_86 (by decide) ?_
              exact J_ret (r := some (.int _)) dX0_turnedInCubes_93 ⟨rfl, _, rfl, rfl⟩ (⟨⟨_, rfl, (j_rng _).1, (j_rng _).2, (by have hbx0 : x0.toInt < 48 := hp1; have hbx1 : x1.toInt < 6 := hp3; obtain ⟨nx0, hnx0, rfl⟩ := jnat hp0 hbx0 (by decide); obtain ⟨nx1, hnx1, rfl⟩ := jnat hp2 hbx1 (by decide); clear hbx0 hbx1; clear hp0 hp1 hp2 hp3; have hcs := (jband (decide_eq_true c2) (jband (decide_eq_true c15) (jband (decide_eq_true c33) (jband (decide_eq_true c54) (jband (decide_eq_true c63) (decide_eq_true c81)))))); clear c2 c15 c33 c54 c63 c81; apply of_decide_eq_true; revert hcs; revert nx1; revert nx0; decide +kernel)⟩, rfl⟩)
          · refine J_gets (k := 2) rfl jw_fl_X0_33 dX0_turnedInCubes_66 ?_
            refine J_iload dX0_turnedInCubes_69 rfl ?_
            refine J_ti (k := 2) rfl rfl dX0_turnedInCubes_71 (by exact vp_in_g (by assumption) (by assumption) (by decide)) rfl ?_
            refine J_goto (tgt := 76) dX0_turnedInCubes_72 (by decide) ?_
            refine J_istore dX0_turnedInCubes_76 rfl (by decide) ?_
            refine J_iload_n dX0_turnedInCubes_78 rfl ?_
            refine J_iload dX0_turnedInCubes_79 rfl ?_
            refine J_icmp_ne (tgt := 89) dX0_turnedInCubes_81 (by decide) (fun c81 => ?_) (fun c81 => ?_)
            · refine J_iload dX0_turnedInCubes_89 rfl ?_
              refine J_iconst (v := 3) dX0_turnedInCubes_91 (by decide) ?_
              refine J_iadd dX0_turnedInCubes_92 ?_
              exact J_ret (r := some (.int _)) dX0_turnedInCubes_93 ⟨rfl, _, rfl, rfl⟩ (⟨⟨_, rfl, (j_rng _).1, (j_rng _).2, (by have hbx0 : x0.toInt < 48 := hp1; have hbx1 : x1.toInt < 6 := hp3; obtain ⟨nx0, hnx0, rfl⟩ := jnat hp0 hbx0 (by decide); obtain ⟨nx1, hnx1, rfl⟩ := jnat hp2 hbx1 (by decide); clear hbx0 hbx1; clear hp0 hp1 hp2 hp3; have hcs := (jband (decide_eq_true c2) (jband (decide_eq_true c15) (jband (decide_eq_true c33) (jband (decide_eq_true c54) (jband (decide_eq_true c63) (decide_eq_true c81)))))); clear c2 c15 c33 c54 c63 c81; apply of_decide_eq_true; revert hcs; revert nx1; revert nx0; decide +kernel)⟩, rfl⟩)
            · refine J_iload dX0_turnedInCubes_84 rfl ?_
              refine J_goto (tgt := 93) dX0_turnedInCubes_86 (by decide) ?_
              exact J_ret (r := some (.int _)) dX0_turnedInCubes_93 ⟨rfl, _, rfl, rfl⟩ (⟨⟨_, rfl, (j_rng _).1, (j_rng _).2, (by have hbx0 : x0.toInt < 48 := hp1; have hbx1 : x1.toInt < 6 := hp3; obtain ⟨nx0, hnx0, rfl⟩ := jnat hp0 hbx0 (by decide); obtain ⟨nx1, hnx1, rfl⟩ := jnat hp2 hbx1 (by decide); clear hbx0 hbx1; clear hp0 hp1 hp2 hp3; have hcs := (jband (decide_eq_true c2) (jband (decide_eq_true c15) (jband (decide_eq_true c33) (jband (decide_eq_true c54) (jband (decide_eq_true c63) (decide_eq_true c81)))))); clear c2 c15 c33 c54 c63 c81; apply of_decide_eq_true; revert hcs; revert nx1; revert nx0; decide +kernel)⟩, rfl⟩)
      · refine J_iconst (v := 1) dX0_turnedInCubes_36 (by decide) ?_
        refine J_goto (tgt := 41) dX0_turnedInCubes_37 (by decide) ?_
        refine J_istore dX0_turnedInCubes_41 rfl (by decide) ?_
        refine J_iconst (v := 3) dX0_turnedInCubes_43 (by decide) ?_
        refine J_iload_n dX0_turnedInCubes_44 rfl ?_
        refine J_iconst (v := 3) dX0_turnedInCubes_45 (by decide) ?_
        refine J_ishr dX0_turnedInCubes_46 ?_
        refine J_imul dX0_turnedInCubes_47 ?_
        refine J_iload_n dX0_turnedInCubes_48 rfl ?_
        refine J_iadd dX0_turnedInCubes_49 ?_
        refine J_istore dX0_turnedInCubes_50 rfl (by decide) ?_
        refine J_iload dX0_turnedInCubes_52 rfl ?_
        refine J_if_lt (tgt := 75) dX0_turnedInCubes_54 (by decide) (fun c54 => ?_) (fun c54 => ?_)
        · refine J_iload_n dX0_turnedInCubes_75 rfl ?_
          refine J_istore dX0_turnedInCubes_76 rfl (by decide) ?_
          refine J_iload_n dX0_turnedInCubes_78 rfl ?_
          refine J_iload dX0_turnedInCubes_79 rfl ?_
          refine J_icmp_ne (tgt := 89) dX0_turnedInCubes_81 (by decide) (fun c81 => ?_) (fun c81 => ?_)
          · refine J_iload dX0_turnedInCubes_89 rfl ?_
            refine J_iconst (v := 3) dX0_turnedInCubes_91 (by decide) ?_
            refine J_iadd dX0_turnedInCubes_92 ?_
            exact J_ret (r := some (.int _)) dX0_turnedInCubes_93 ⟨rfl, _, rfl, rfl⟩ (⟨⟨_, rfl, (j_rng _).1, (j_rng _).2, (by have hbx0 : x0.toInt < 48 := hp1; have hbx1 : x1.toInt < 6 := hp3; obtain ⟨nx0, hnx0, rfl⟩ := jnat hp0 hbx0 (by decide); obtain ⟨nx1, hnx1, rfl⟩ := jnat hp2 hbx1 (by decide); clear hbx0 hbx1; clear hp0 hp1 hp2 hp3; have hcs := (jband (decide_eq_true c2) (jband (decide_eq_true c15) (jband (decide_eq_true c33) (jband (decide_eq_true c54) (decide_eq_true c81))))); clear c2 c15 c33 c54 c81; apply of_decide_eq_true; revert hcs; revert nx1; revert nx0; decide +kernel)⟩, rfl⟩)
          · refine J_iload dX0_turnedInCubes_84 rfl ?_
            refine J_goto (tgt := 93) dX0_turnedInCubes_86 (by decide) ?_
            exact J_ret (r := some (.int _)) dX0_turnedInCubes_93 ⟨rfl, _, rfl, rfl⟩ (⟨⟨_, rfl, (j_rng _).1, (j_rng _).2, (by have hbx0 : x0.toInt < 48 := hp1; have hbx1 : x1.toInt < 6 := hp3; obtain ⟨nx0, hnx0, rfl⟩ := jnat hp0 hbx0 (by decide); obtain ⟨nx1, hnx1, rfl⟩ := jnat hp2 hbx1 (by decide); clear hbx0 hbx1; clear hp0 hp1 hp2 hp3; have hcs := (jband (decide_eq_true c2) (jband (decide_eq_true c15) (jband (decide_eq_true c33) (jband (decide_eq_true c54) (decide_eq_true c81))))); clear c2 c15 c33 c54 c81; apply of_decide_eq_true; revert hcs; revert nx1; revert nx0; decide +kernel)⟩, rfl⟩)
        · refine J_iload dX0_turnedInCubes_57 rfl ?_
          refine J_gets (k := 2) rfl jw_fl_X0_33 dX0_turnedInCubes_59 ?_
          refine J_tlen (k := 2) rfl dX0_turnedInCubes_62 rfl ?_
          refine J_icmp_ge (tgt := 75) dX0_turnedInCubes_63 (by decide) (fun c63 => ?_) (fun c63 => ?_)
          · refine J_iload_n dX0_turnedInCubes_75 rfl ?_
            refine J_istore dX0_turnedInCubes_76 rfl (by decide) ?_
            refine J_iload_n dX0_turnedInCubes_78 rfl ?_
            refine J_iload dX0_turnedInCubes_79 rfl ?_
            refine J_icmp_ne (tgt := 89) dX0_turnedInCubes_81 (by decide) (fun c81 => ?_) (fun c81 => ?_)
            · refine J_iload dX0_turnedInCubes_89 rfl ?_
              refine J_iconst (v := 3) dX0_turnedInCubes_91 (by decide) ?_
              refine J_iadd dX0_turnedInCubes_92 ?_
              exact J_ret (r := some (.int _)) dX0_turnedInCubes_93 ⟨rfl, _, rfl, rfl⟩ (⟨⟨_, rfl, (j_rng _).1, (j_rng _).2, (by have hbx0 : x0.toInt < 48 := hp1; have hbx1 : x1.toInt < 6 := hp3; obtain ⟨nx0, hnx0, rfl⟩ := jnat hp0 hbx0 (by decide); obtain ⟨nx1, hnx1, rfl⟩ := jnat hp2 hbx1 (by decide); clear hbx0 hbx1; clear hp0 hp1 hp2 hp3; have hcs := (jband (decide_eq_true c2) (jband (decide_eq_true c15) (jband (decide_eq_true c33) (jband (decide_eq_true c54) (jband (decide_eq_true c63) (decide_eq_true c81)))))); clear c2 c15 c33 c54 c63 c81; apply of_decide_eq_true; revert hcs; revert nx1; revert nx0; decide +kernel)⟩, rfl⟩)
            · refine J_iload dX0_turnedInCubes_84 rfl ?_
              refine J_goto (tgt := 93) dX0_turnedInCubes_86 (by decide) ?_
              exact J_ret (r := some (.int _)) dX0_turnedInCubes_93 ⟨rfl, _, rfl, rfl⟩ (⟨⟨_, rfl, (j_rng _).1, (j_rng _).2, (by have hbx0 : x0.toInt < 48 := hp1; have hbx1 : x1.toInt < 6 := hp3; obtain ⟨nx0, hnx0, rfl⟩ := jnat hp0 hbx0 (by decide); obtain ⟨nx1, hnx1, rfl⟩ := jnat hp2 hbx1 (by decide); clear hbx0 hbx1; clear hp0 hp1 hp2 hp3; have hcs := (jband (decide_eq_true c2) (jband (decide_eq_true c15) (jband (decide_eq_true c33) (jband (decide_eq_true c54) (jband (decide_eq_true c63) (decide_eq_true c81)))))); clear c2 c15 c33 c54 c63 c81; apply of_decide_eq_true; revert hcs; revert nx1; revert nx0; decide +kernel)⟩, rfl⟩)
          · refine J_gets (k := 2) rfl jw_fl_X0_33 dX0_turnedInCubes_66 ?_
            refine J_iload dX0_turnedInCubes_69 rfl ?_
            refine J_ti (k := 2) rfl rfl dX0_turnedInCubes_71 (by exact vp_in_g (by assumption) (by assumption) (by decide)) rfl ?_
            refine J_goto (tgt := 76) dX0_turnedInCubes_72 (by decide) ?_
            refine J_istore dX0_turnedInCubes_76 rfl (by decide) ?_
            refine J_iload_n dX0_turnedInCubes_78 rfl ?_
            refine J_iload dX0_turnedInCubes_79 rfl ?_
            refine J_icmp_ne (tgt := 89) dX0_turnedInCubes_81 (by decide) (fun c81 => ?_) (fun c81 => ?_)
            · refine J_iload dX0_turnedInCubes_89 rfl ?_
              refine J_iconst (v := 3) dX0_turnedInCubes_91 (by decide) ?_
              refine J_iadd dX0_turnedInCubes_92 ?_
              exact J_ret (r := some (.int _)) dX0_turnedInCubes_93 ⟨rfl, _, rfl, rfl⟩ (⟨⟨_, rfl, (j_rng _).1, (j_rng _).2, (by have hbx0 : x0.toInt < 48 := hp1; have hbx1 : x1.toInt < 6 := hp3; obtain ⟨nx0, hnx0, rfl⟩ := jnat hp0 hbx0 (by decide); obtain ⟨nx1, hnx1, rfl⟩ := jnat hp2 hbx1 (by decide); clear hbx0 hbx1; clear hp0 hp1 hp2 hp3; have hcs := (jband (decide_eq_true c2) (jband (decide_eq_true c15) (jband (decide_eq_true c33) (jband (decide_eq_true c54) (jband (decide_eq_true c63) (decide_eq_true c81)))))); clear c2 c15 c33 c54 c63 c81; apply of_decide_eq_true; revert hcs; revert nx1; revert nx0; decide +kernel)⟩, rfl⟩)
            · refine J_iload dX0_turnedInCubes_84 rfl ?_
              refine J_goto (tgt := 93) dX0_turnedInCubes_86 (by decide) ?_
              exact J_ret (r := some (.int _)) dX0_turnedInCubes_93 ⟨rfl, _, rfl, rfl⟩ (⟨⟨_, rfl, (j_rng _).1, (j_rng _).2, (by have hbx0 : x0.toInt < 48 := hp1; have hbx1 : x1.toInt < 6 := hp3; obtain ⟨nx0, hnx0, rfl⟩ := jnat hp0 hbx0 (by decide); obtain ⟨nx1, hnx1, rfl⟩ := jnat hp2 hbx1 (by decide); clear hbx0 hbx1; clear hp0 hp1 hp2 hp3; have hcs := (jband (decide_eq_true c2) (jband (decide_eq_true c15) (jband (decide_eq_true c33) (jband (decide_eq_true c54) (jband (decide_eq_true c63) (decide_eq_true c81)))))); clear c2 c15 c33 c54 c63 c81; apply of_decide_eq_true; revert hcs; revert nx1; revert nx0; decide +kernel)⟩, rfl⟩)
  · refine J_iload_n dX0_turnedInCubes_5 rfl ?_
    refine J_goto (tgt := 12) dX0_turnedInCubes_6 (by decide) ?_
    refine J_istore_n dX0_turnedInCubes_12 rfl (by decide) ?_
    refine J_iload_n dX0_turnedInCubes_13 rfl ?_
    refine J_iconst (v := 3) dX0_turnedInCubes_14 (by decide) ?_
    refine J_icmp_lt (tgt := 22) dX0_turnedInCubes_15 (by decide) (fun c15 => ?_) (fun c15 => ?_)
    · refine J_iconst (v := 0) dX0_turnedInCubes_22 (by decide) ?_
      refine J_istore_n dX0_turnedInCubes_23 rfl (by decide) ?_
      refine J_iload_n dX0_turnedInCubes_24 rfl ?_
      refine J_bipush (v := 7) dX0_turnedInCubes_25 (by decide) ?_
      refine J_iand dX0_turnedInCubes_27 ?_
      refine J_iload_n dX0_turnedInCubes_28 rfl ?_
      refine J_ishr dX0_turnedInCubes_29 ?_
      refine J_iconst (v := 1) dX0_turnedInCubes_30 (by decide) ?_
      refine J_iand dX0_turnedInCubes_31 ?_
      refine J_iconst (v := 1) dX0_turnedInCubes_32 (by decide) ?_
      refine J_icmp_ne (tgt := 40) dX0_turnedInCubes_33 (by decide) (fun c33 => ?_) (fun c33 => ?_)
      · refine J_iconst (v := 0) dX0_turnedInCubes_40 (by decide) ?_
        refine J_istore dX0_turnedInCubes_41 rfl (by decide) ?_
        refine J_iconst (v := 3) dX0_turnedInCubes_43 (by decide) ?_
        refine J_iload_n dX0_turnedInCubes_44 rfl ?_
        refine J_iconst (v := 3) dX0_turnedInCubes_45 (by decide) ?_
        refine J_ishr dX0_turnedInCubes_46 ?_
        refine J_imul dX0_turnedInCubes_47 ?_
        refine J_iload_n dX0_turnedInCubes_48 rfl ?_
        refine J_iadd dX0_turnedInCubes_49 ?_
        refine J_istore dX0_turnedInCubes_50 rfl (by decide) ?_
        refine J_iload dX0_turnedInCubes_52 rfl ?_
        refine J_if_lt (tgt := 75) dX0_turnedInCubes_54 (by decide) (fun c54 => ?_) (fun c54 => ?_)
        · refine J_iload_n dX0_turnedInCubes_75 rfl ?_
          refine J_istore dX0_turnedInCubes_76 rfl (by decide) ?_
          refine J_iload_n dX0_turnedInCubes_78 rfl ?_
          refine J_iload dX0_turnedInCubes_79 rfl ?_
          refine J_icmp_ne (tgt := 89) dX0_turnedInCubes_81 (by decide) (fun c81 => ?_) (fun c81 => ?_)
          · refine J_iload dX0_turnedInCubes_89 rfl ?_
            refine J_iconst (v := 3) dX0_turnedInCubes_91 (by decide) ?_
            refine J_iadd dX0_turnedInCubes_92 ?_
            exact J_ret (r := some (.int _)) dX0_turnedInCubes_93 ⟨rfl, _, rfl, rfl⟩ (⟨⟨_, rfl, (j_rng _).1, (j_rng _).2, (by have hbx0 : x0.toInt < 48 := hp1; have hbx1 : x1.toInt < 6 := hp3; obtain ⟨nx0, hnx0, rfl⟩ := jnat hp0 hbx0 (by decide); obtain ⟨nx1, hnx1, rfl⟩ := jnat hp2 hbx1 (by decide); clear hbx0 hbx1; clear hp0 hp1 hp2 hp3; have hcs := (jband (decide_eq_true c2) (jband (decide_eq_true c15) (jband (decide_eq_true c33) (jband (decide_eq_true c54) (decide_eq_true c81))))); clear c2 c15 c33 c54 c81; apply of_decide_eq_true; revert hcs; revert nx1; revert nx0; decide +kernel)⟩, rfl⟩)
          · refine J_iload dX0_turnedInCubes_84 rfl ?_
            refine J_goto (tgt := 93) dX0_turnedInCubes_86 (by decide) ?_
            exact J_ret (r := some (.int _)) dX0_turnedInCubes_93 ⟨rfl, _, rfl, rfl⟩ (⟨⟨_, rfl, (j_rng _).1, (j_rng _).2, (by have hbx0 : x0.toInt < 48 := hp1; have hbx1 : x1.toInt < 6 := hp3; obtain ⟨nx0, hnx0, rfl⟩ := jnat hp0 hbx0 (by decide); obtain ⟨nx1, hnx1, rfl⟩ := jnat hp2 hbx1 (by decide); clear hbx0 hbx1; clear hp0 hp1 hp2 hp3; have hcs := (jband (decide_eq_true c2) (jband (decide_eq_true c15) (jband (decide_eq_true c33) (jband (decide_eq_true c54) (decide_eq_true c81))))); clear c2 c15 c33 c54 c81; apply of_decide_eq_true; revert hcs; revert nx1; revert nx0; decide +kernel)⟩, rfl⟩)
        · refine J_iload dX0_turnedInCubes_57 rfl ?_
          refine J_gets (k := 2) rfl jw_fl_X0_33 dX0_turnedInCubes_59 ?_
          refine J_tlen (k := 2) rfl dX0_turnedInCubes_62 rfl ?_
          refine J_icmp_ge (tgt := 75) dX0_turnedInCubes_63 (by decide) (fun c63 => ?_) (fun c63 => ?_)
          · refine J_iload_n dX0_turnedInCubes_75 rfl ?_
            refine J_istore dX0_turnedInCubes_76 rfl (by decide) ?_
            refine J_iload_n dX0_turnedInCubes_78 rfl ?_
            refine J_iload dX0_turnedInCubes_79 rfl ?_
            refine J_icmp_ne (tgt := 89) dX0_turnedInCubes_81 (by decide) (fun c81 => ?_) (fun c81 => ?_)
            · refine J_iload dX0_turnedInCubes_89 rfl ?_
              refine J_iconst (v := 3) dX0_turnedInCubes_91 (by decide) ?_
              refine J_iadd dX0_turnedInCubes_92 ?_
              exact J_ret (r := some (.int _)) dX0_turnedInCubes_93 ⟨rfl, _, rfl, rfl⟩ (⟨⟨_, rfl, (j_rng _).1, (j_rng _).2, (by have hbx0 : x0.toInt < 48 := hp1; have hbx1 : x1.toInt < 6 := hp3; obtain ⟨nx0, hnx0, rfl⟩ := jnat hp0 hbx0 (by decide); obtain ⟨nx1, hnx1, rfl⟩ := jnat hp2 hbx1 (by decide); clear hbx0 hbx1; clear hp0 hp1 hp2 hp3; have hcs := (jband (decide_eq_true c2) (jband (decide_eq_true c15) (jband (decide_eq_true c33) (jband (decide_eq_true c54) (jband (decide_eq_true c63) (decide_eq_true c81)))))); clear c2 c15 c33 c54 c63 c81; apply of_decide_eq_true; revert hcs; revert nx1; revert nx0; decide +kernel)⟩, rfl⟩)
            · refine J_iload dX0_turnedInCubes_84 rfl ?_
              refine J_goto (tgt := 93) dX0_turnedInCubes_86 (by decide) ?_
              exact J_ret (r := some (.int _)) dX0_turnedInCubes_93 ⟨rfl, _, rfl, rfl⟩ (⟨⟨_, rfl, (j_rng _).1, (j_rng _).2, (by have hbx0 : x0.toInt < 48 := hp1; have hbx1 : x1.toInt < 6 := hp3; obtain ⟨nx0, hnx0, rfl⟩ := jnat hp0 hbx0 (by decide); obtain ⟨nx1, hnx1, rfl⟩ := jnat hp2 hbx1 (by decide); clear hbx0 hbx1; clear hp0 hp1 hp2 hp3; have hcs := (jband (decide_eq_true c2) (jband (decide_eq_true c15) (jband (decide_eq_true c33) (jband (decide_eq_true c54) (jband (decide_eq_true c63) (decide_eq_true c81)))))); clear c2 c15 c33 c54 c63 c81; apply of_decide_eq_true; revert hcs; revert nx1; revert nx0; decide +kernel)⟩, rfl⟩)
          · refine J_gets (k := 2) rfl jw_fl_X0_33 dX0_turnedInCubes_66 ?_
            refine J_iload dX0_turnedInCubes_69 rfl ?_
            refine J_ti (k := 2) rfl rfl dX0_turnedInCubes_71 (by exact vp_in_g (by assumption) (by assumption) (by decide)) rfl ?_
            refine J_goto (tgt := 76) dX0_turnedInCubes_72 (by decide) ?_
            refine J_istore dX0_turnedInCubes_76 rfl (by decide) ?_
            refine J_iload_n dX0_turnedInCubes_78 rfl ?_
            refine J_iload dX0_turnedInCubes_79 rfl ?_
            refine J_icmp_ne (tgt := 89) dX0_turnedInCubes_81 (by decide) (fun c81 => ?_) (fun c81 => ?_)
            · refine J_iload dX0_turnedInCubes_89 rfl ?_
              refine J_iconst (v := 3) dX0_turnedInCubes_91 (by decide) ?_
              refine J_iadd dX0_turnedInCubes_92 ?_
              exact J_ret (r := some (.int _)) dX0_turnedInCubes_93 ⟨rfl, _, rfl, rfl⟩ (⟨⟨_, rfl, (j_rng _).1, (j_rng _).2, (by have hbx0 : x0.toInt < 48 := hp1; have hbx1 : x1.toInt < 6 := hp3; obtain ⟨nx0, hnx0, rfl⟩ := jnat hp0 hbx0 (by decide); obtain ⟨nx1, hnx1, rfl⟩ := jnat hp2 hbx1 (by decide); clear hbx0 hbx1; clear hp0 hp1 hp2 hp3; have hcs := (jband (decide_eq_true c2) (jband (decide_eq_true c15) (jband (decide_eq_true c33) (jband (decide_eq_true c54) (jband (decide_eq_true c63) (decide_eq_true c81)))))); clear c2 c15 c33 c54 c63 c81; apply of_decide_eq_true; revert hcs; revert nx1; revert nx0; decide +kernel)⟩, rfl⟩)
            · refine J_iload dX0_turnedInCubes_84 rfl ?_
              refine J_goto (tgt := 93) dX0_turnedInCubes_86 (by decide) ?_
              exact J_ret (r := some (.int _)) dX0_turnedInCubes_93 ⟨rfl, _, rfl, rfl⟩ (⟨⟨_, rfl, (j_rng _).1, (j_rng _).2, (by have hbx0 : x0.toInt < 48 := hp1; have hbx1 : x1.toInt < 6 := hp3; obtain ⟨nx0, hnx0, rfl⟩ := jnat hp0 hbx0 (by decide); obtain ⟨nx1, hnx1, rfl⟩ := jnat hp2 hbx1 (by decide); clear hbx0 hbx1; clear hp0 hp1 hp2 hp3; have hcs := (jband (decide_eq_true c2) (jband (decide_eq_true c15) (jband (decide_eq_true c33) (jband (decide_eq_true c54) (jband (decide_eq_true c63) (decide_eq_true c81)))))); clear c2 c15 c33 c54 c63 c81; apply of_decide_eq_true; revert hcs; revert nx1; revert nx0; decide +kernel)⟩, rfl⟩)
      · refine J_iconst (v := 1) dX0_turnedInCubes_36 (by decide) ?_
        refine J_goto (tgt := 41) dX0_turnedInCubes_37 (by decide) ?_
        refine J_istore dX0_turnedInCubes_41 rfl (by decide) ?_
        refine J_iconst (v := 3) dX0_turnedInCubes_43 (by decide) ?_
        refine J_iload_n dX0_turnedInCubes_44 rfl ?_
        refine J_iconst (v := 3) dX0_turnedInCubes_45 (by decide) ?_
        refine J_ishr dX0_turnedInCubes_46 ?_
        refine J_imul dX0_turnedInCubes_47 ?_
        refine J_iload_n dX0_turnedInCubes_48 rfl ?_
        refine J_iadd dX0_turnedInCubes_49 ?_
        refine J_istore dX0_turnedInCubes_50 rfl (by decide) ?_
        refine J_iload dX0_turnedInCubes_52 rfl ?_
        refine J_if_lt (tgt := 75) dX0_turnedInCubes_54 (by decide) (fun c54 => ?_) (fun c54 => ?_)
        · refine J_iload_n dX0_turnedInCubes_75 rfl ?_
          refine J_istore dX0_turnedInCubes_76 rfl (by decide) ?_
          refine J_iload_n dX0_turnedInCubes_78 rfl ?_
          refine J_iload dX0_turnedInCubes_79 rfl ?_
          refine J_icmp_ne (tgt := 89) dX0_turnedInCubes_81 (by decide) (fun c81 => ?_) (fun c81 => ?_)
          · refine J_iload dX0_turnedInCubes_89 rfl ?_
            refine J_iconst (v := 3) dX0_turnedInCubes_91 (by decide) ?_
            refine J_iadd dX0_turnedInCubes_92 ?_
            exact J_ret (r := some (.int _)) dX0_turnedInCubes_93 ⟨rfl, _, rfl, rfl⟩ (⟨⟨_, rfl, (j_rng _).1, (j_rng _).2, (by have hbx0 : x0.toInt < 48 := hp1; have hbx1 : x1.toInt < 6 := hp3; obtain ⟨nx0, hnx0, rfl⟩ := jnat hp0 hbx0 (by decide); obtain ⟨nx1, hnx1, rfl⟩ := jnat hp2 hbx1 (by decide); clear hbx0 hbx1; clear hp0 hp1 hp2 hp3; have hcs := (jband (decide_eq_true c2) (jband (decide_eq_true c15) (jband (decide_eq_true c33) (jband (decide_eq_true c54) (decide_eq_true c81))))); clear c2 c15 c33 c54 c81; apply of_decide_eq_true; revert hcs; revert nx1; revert nx0; decide +kernel)⟩, rfl⟩)
          · refine J_iload dX0_turnedInCubes_84 rfl ?_
            refine J_goto (tgt := 93) dX0_turnedInCubes_86 (by decide) ?_
            exact J_ret (r := some (.int _)) dX0_turnedInCubes_93 ⟨rfl, _, rfl, rfl⟩ (⟨⟨_, rfl, (j_rng _).1, (j_rng _).2, (by have hbx0 : x0.toInt < 48 := hp1; have hbx1 : x1.toInt < 6 := hp3; obtain ⟨nx0, hnx0, rfl⟩ := jnat hp0 hbx0 (by decide); obtain ⟨nx1, hnx1, rfl⟩ := jnat hp2 hbx1 (by decide); clear hbx0 hbx1; clear hp0 hp1 hp2 hp3; have hcs := (jband (decide_eq_true c2) (jband (decide_eq_true c15) (jband (decide_eq_true c33) (jband (decide_eq_true c54) (decide_eq_true c81))))); clear c2 c15 c33 c54 c81; apply of_decide_eq_true; revert hcs; revert nx1; revert nx0; decide +kernel)⟩, rfl⟩)
        · refine J_iload dX0_turnedInCubes_57 rfl ?_
          refine J_gets (k := 2) rfl jw_fl_X0_33 dX0_turnedInCubes_59 ?_
          refine J_tlen (k := 2) rfl dX0_turnedInCubes_62 rfl ?_
          refine J_icmp_ge (tgt := 75) dX0_turnedInCubes_63 (by decide) (fun c63 => ?_) (fun c63 => ?_)
          · refine J_iload_n dX0_turnedInCubes_75 rfl ?_
            refine J_istore dX0_turnedInCubes_76 rfl (by decide) ?_
            refine J_iload_n dX0_turnedInCubes_78 rfl ?_
            refine J_iload dX0_turnedInCubes_79 rfl ?_
            refine J_icmp_ne (tgt := 89) dX0_turnedInCubes_81 (by decide) (fun c81 => ?_) (fun c81 => ?_)
            · refine J_iload dX0_turnedInCubes_89 rfl ?_
              refine J_iconst (v := 3) dX0_turnedInCubes_91 (by decide) ?_
              refine J_iadd dX0_turnedInCubes_92 ?_
              exact J_ret (r := some (.int _)) dX0_turnedInCubes_93 ⟨rfl, _, rfl, rfl⟩ (⟨⟨_, rfl, (j_rng _).1, (j_rng _).2, (by have hbx0 : x0.toInt < 48 := hp1; have hbx1 : x1.toInt < 6 := hp3; obtain ⟨nx0, hnx0, rfl⟩ := jnat hp0 hbx0 (by decide); obtain ⟨nx1, hnx1, rfl⟩ := jnat hp2 hbx1 (by decide); clear hbx0 hbx1; clear hp0 hp1 hp2 hp3; have hcs := (jband (decide_eq_true c2) (jband (decide_eq_true c15) (jband (decide_eq_true c33) (jband (decide_eq_true c54) (jband (decide_eq_true c63) (decide_eq_true c81)))))); clear c2 c15 c33 c54 c63 c81; apply of_decide_eq_true; revert hcs; revert nx1; revert nx0; decide +kernel)⟩, rfl⟩)
            · refine J_iload dX0_turnedInCubes_84 rfl ?_
              refine J_goto (tgt := 93) dX0_turnedInCubes_86 (by decide) ?_
              exact J_ret (r := some (.int _)) dX0_turnedInCubes_93 ⟨rfl, _, rfl, rfl⟩ (⟨⟨_, rfl, (j_rng _).1, (j_rng _).2, (by have hbx0 : x0.toInt < 48 := hp1; have hbx1 : x1.toInt < 6 := hp3; obtain ⟨nx0, hnx0, rfl⟩ := jnat hp0 hbx0 (by decide); obtain ⟨nx1, hnx1, rfl⟩ := jnat hp2 hbx1 (by decide); clear hbx0 hbx1; clear hp0 hp1 hp2 hp3; have hcs := (jband (decide_eq_true c2) (jband (decide_eq_true c15) (jband (decide_eq_true c33) (jband (decide_eq_true c54) (jband (decide_eq_true c63) (decide_eq_true c81)))))); clear c2 c15 c33 c54 c63 c81; apply of_decide_eq_true; revert hcs; revert nx1; revert nx0; decide +kernel)⟩, rfl⟩)
          · refine J_gets (k := 2) rfl jw_fl_X0_33 dX0_turnedInCubes_66 ?_
            refine J_iload dX0_turnedInCubes_69 rfl ?_
            refine J_ti (k := 2) rfl rfl dX0_turnedInCubes_71 (by exact vp_in_g (by assumption) (by assumption) (by decide)) rfl ?_
            refine J_goto (tgt := 76) dX0_turnedInCubes_72 (by decide) ?_
            refine J_istore dX0_turnedInCubes_76 rfl (by decide) ?_
            refine J_iload_n dX0_turnedInCubes_78 rfl ?_
            refine J_iload dX0_turnedInCubes_79 rfl ?_
            refine J_icmp_ne (tgt := 89) dX0_turnedInCubes_81 (by decide) (fun c81 => ?_) (fun c81 => ?_)
            · refine J_iload dX0_turnedInCubes_89 rfl ?_
              refine J_iconst (v := 3) dX0_turnedInCubes_91 (by decide) ?_
              refine J_iadd dX0_turnedInCubes_92 ?_
              exact J_ret (r := some (.int _)) dX0_turnedInCubes_93 ⟨rfl, _, rfl, rfl⟩ (⟨⟨_, rfl, (j_rng _).1, (j_rng _).2, (by have hbx0 : x0.toInt < 48 := hp1; have hbx1 : x1.toInt < 6 := hp3; obtain ⟨nx0, hnx0, rfl⟩ := jnat hp0 hbx0 (by decide); obtain ⟨nx1, hnx1, rfl⟩ := jnat hp2 hbx1 (by decide); clear hbx0 hbx1; clear hp0 hp1 hp2 hp3; have hcs := (jband (decide_eq_true c2) (jband (decide_eq_true c15) (jband (decide_eq_true c33) (jband (decide_eq_true c54) (jband (decide_eq_true c63) (decide_eq_true c81)))))); clear c2 c15 c33 c54 c63 c81; apply of_decide_eq_true; revert hcs; revert nx1; revert nx0; decide +kernel)⟩, rfl⟩)
            · refine J_iload dX0_turnedInCubes_84 rfl ?_
              refine J_goto (tgt := 93) dX0_turnedInCubes_86 (by decide) ?_
              exact J_ret (r := some (.int _)) dX0_turnedInCubes_93 ⟨rfl, _, rfl, rfl⟩ (⟨⟨_, rfl, (j_rng _).1, (j_rng _).2, (by have hbx0 : x0.toInt < 48 := hp1; have hbx1 : x1.toInt < 6 := hp3; obtain ⟨nx0, hnx0, rfl⟩ := jnat hp0 hbx0 (by decide); obtain ⟨nx1, hnx1, rfl⟩ := jnat hp2 hbx1 (by decide); clear hbx0 hbx1; clear hp0 hp1 hp2 hp3; have hcs := (jband (decide_eq_true c2) (jband (decide_eq_true c15) (jband (decide_eq_true c33) (jband (decide_eq_true c54) (jband (decide_eq_true c63) (decide_eq_true c81)))))); clear c2 c15 c33 c54 c63 c81; apply of_decide_eq_true; revert hcs; revert nx1; revert nx0; decide +kernel)⟩, rfl⟩)
    · refine J_iconst (v := 1) dX0_turnedInCubes_18 (by decide) ?_
      refine J_goto (tgt := 23) dX0_turnedInCubes_19 (by decide) ?_
      refine J_istore_n dX0_turnedInCubes_23 rfl (by decide) ?_
      refine J_iload_n dX0_turnedInCubes_24 rfl ?_
      refine J_bipush (v := 7) dX0_turnedInCubes_25 (by decide) ?_
      refine J_iand dX0_turnedInCubes_27 ?_
      refine J_iload_n dX0_turnedInCubes_28 rfl ?_
      refine J_ishr dX0_turnedInCubes_29 ?_
      refine J_iconst (v := 1) dX0_turnedInCubes_30 (by decide) ?_
      refine J_iand dX0_turnedInCubes_31 ?_
      refine J_iconst (v := 1) dX0_turnedInCubes_32 (by decide) ?_
      refine J_icmp_ne (tgt := 40) dX0_turnedInCubes_33 (by decide) (fun c33 => ?_) (fun c33 => ?_)
      · refine J_iconst (v := 0) dX0_turnedInCubes_40 (by decide) ?_
        refine J_istore dX0_turnedInCubes_41 rfl (by decide) ?_
        refine J_iconst (v := 3) dX0_turnedInCubes_43 (by decide) ?_
        refine J_iload_n dX0_turnedInCubes_44 rfl ?_
        refine J_iconst (v := 3) dX0_turnedInCubes_45 (by decide) ?_
        refine J_ishr dX0_turnedInCubes_46 ?_
        refine J_imul dX0_turnedInCubes_47 ?_
        refine J_iload_n dX0_turnedInCubes_48 rfl ?_
        refine J_iadd dX0_turnedInCubes_49 ?_
        refine J_istore dX0_turnedInCubes_50 rfl (by decide) ?_
        refine J_iload dX0_turnedInCubes_52 rfl ?_
        refine J_if_lt (tgt := 75) dX0_turnedInCubes_54 (by decide) (fun c54 => ?_) (fun c54 => ?_)
        · refine J_iload_n dX0_turnedInCubes_75 rfl ?_
          refine J_istore dX0_turnedInCubes_76 rfl (by decide) ?_
          refine J_iload_n dX0_turnedInCubes_78 rfl ?_
          refine J_iload dX0_turnedInCubes_79 rfl ?_
          refine J_icmp_ne (tgt := 89) dX0_turnedInCubes_81 (by decide) (fun c81 => ?_) (fun c81 => ?_)
          · refine J_iload dX0_turnedInCubes_89 rfl ?_
            refine J_iconst (v := 3) dX0_turnedInCubes_91 (by decide) ?_
            refine J_iadd dX0_turnedInCubes_92 ?_
            exact J_ret (r := some (.int _)) dX0_turnedInCubes_93 ⟨rfl, _, rfl, rfl⟩ (⟨⟨_, rfl, (j_rng _).1, (j_rng _).2, (by have hbx0 : x0.toInt < 48 := hp1; have hbx1 : x1.toInt < 6 := hp3; obtain ⟨nx0, hnx0, rfl⟩ := jnat hp0 hbx0 (by decide); obtain ⟨nx1, hnx1, rfl⟩ := jnat hp2 hbx1 (by decide); clear hbx0 hbx1; clear hp0 hp1 hp2 hp3; have hcs := (jband (decide_eq_true c2) (jband (decide_eq_true c15) (jband (decide_eq_true c33) (jband (decide_eq_true c54) (decide_eq_true c81))))); clear c2 c15 c33 c54 c81; apply of_decide_eq_true; revert hcs; revert nx1; revert nx0; decide +kernel)⟩, rfl⟩)
          · refine J_iload dX0_turnedInCubes_84 rfl ?_
            refine J_goto (tgt := 93) dX0_turnedInCubes_86 (by decide) ?_
            exact J_ret (r := some (.int _)) dX0_turnedInCubes_93 ⟨rfl, _, rfl, rfl⟩ (⟨⟨_, rfl, (j_rng _).1, (j_rng _).2, (by have hbx0 : x0.toInt < 48 := hp1; have hbx1 : x1.toInt < 6 := hp3; obtain ⟨nx0, hnx0, rfl⟩ := jnat hp0 hbx0 (by decide); obtain ⟨nx1, hnx1, rfl⟩ := jnat hp2 hbx1 (by decide); clear hbx0 hbx1; clear hp0 hp1 hp2 hp3; have hcs := (jband (decide_eq_true c2) (jband (decide_eq_true c15) (jband (decide_eq_true c33) (jband (decide_eq_true c54) (decide_eq_true c81))))); clear c2 c15 c33 c54 c81; apply of_decide_eq_true; revert hcs; revert nx1; revert nx0; decide +kernel)⟩, rfl⟩)
        · refine J_iload dX0_turnedInCubes_57 rfl ?_
          refine J_gets (k := 2) rfl jw_fl_X0_33 dX0_turnedInCubes_59 ?_
          refine J_tlen (k := 2) rfl dX0_turnedInCubes_62 rfl ?_
          refine J_icmp_ge (tgt := 75) dX0_turnedInCubes_63 (by decide) (fun c63 => ?_) (fun c63 => ?_)
          · refine J_iload_n dX0_turnedInCubes_75 rfl ?_
            refine J_istore dX0_turnedInCubes_76 rfl (by decide) ?_
            refine J_iload_n dX0_turnedInCubes_78 rfl ?_
            refine J_iload dX0_turnedInCubes_79 rfl ?_
            refine J_icmp_ne (tgt := 89) dX0_turnedInCubes_81 (by decide) (fun c81 => ?_) (fun c81 => ?_)
            · refine J_iload dX0_turnedInCubes_89 rfl ?_
              refine J_iconst (v := 3) dX0_turnedInCubes_91 (by decide) ?_
              refine J_iadd dX0_turnedInCubes_92 ?_
              exact J_ret (r := some (.int _)) dX0_turnedInCubes_93 ⟨rfl, _, rfl, rfl⟩ (⟨⟨_, rfl, (j_rng _).1, (j_rng _).2, (by have hbx0 : x0.toInt < 48 := hp1; have hbx1 : x1.toInt < 6 := hp3; obtain ⟨nx0, hnx0, rfl⟩ := jnat hp0 hbx0 (by decide); obtain ⟨nx1, hnx1, rfl⟩ := jnat hp2 hbx1 (by decide); clear hbx0 hbx1; clear hp0 hp1 hp2 hp3; have hcs := (jband (decide_eq_true c2) (jband (decide_eq_true c15) (jband (decide_eq_true c33) (jband (decide_eq_true c54) (jband (decide_eq_true c63) (decide_eq_true c81)))))); clear c2 c15 c33 c54 c63 c81; apply of_decide_eq_true; revert hcs; revert nx1; revert nx0; decide +kernel)⟩, rfl⟩)
            · refine J_iload dX0_turnedInCubes_84 rfl ?_
              refine J_goto (tgt := 93) dX0_turnedInCubes_86 (by decide) ?_
              exact J_ret (r := some (.int _)) dX0_turnedInCubes_93 ⟨rfl, _, rfl, rfl⟩ (⟨⟨_, rfl, (j_rng _).1, (j_rng _).2, (by have hbx0 : x0.toInt < 48 := hp1; have hbx1 : x1.toInt < 6 := hp3; obtain ⟨nx0, hnx0, rfl⟩ := jnat hp0 hbx0 (by decide); obtain ⟨nx1, hnx1, rfl⟩ := jnat hp2 hbx1 (by decide); clear hbx0 hbx1; clear hp0 hp1 hp2 hp3; have hcs := (jband (decide_eq_true c2) (jband (decide_eq_true c15) (jband (decide_eq_true c33) (jband (decide_eq_true c54) (jband (decide_eq_true c63) (decide_eq_true c81)))))); clear c2 c15 c33 c54 c63 c81; apply of_decide_eq_true; revert hcs; revert nx1; revert nx0; decide +kernel)⟩, rfl⟩)
          · refine J_gets (k := 2) rfl jw_fl_X0_33 dX0_turnedInCubes_66 ?_
            refine J_iload dX0_turnedInCubes_69 rfl ?_
            refine J_ti (k := 2) rfl rfl dX0_turnedInCubes_71 (by exact vp_in_g (by assumption) (by assumption) (by decide)) rfl ?_
            refine J_goto (tgt := 76) dX0_turnedInCubes_72 (by decide) ?_
            refine J_istore dX0_turnedInCubes_76 rfl (by decide) ?_
            refine J_iload_n dX0_turnedInCubes_78 rfl ?_
            refine J_iload dX0_turnedInCubes_79 rfl ?_
            refine J_icmp_ne (tgt := 89) dX0_turnedInCubes_81 (by decide) (fun c81 => ?_) (fun c81 => ?_)
            · refine J_iload dX0_turnedInCubes_89 rfl ?_
              refine J_iconst (v := 3) dX0_turnedInCubes_91 (by decide) ?_
              refine J_iadd dX0_turnedInCubes_92 ?_
              exact J_ret (r := some (.int _)) dX0_turnedInCubes_93 ⟨rfl, _, rfl, rfl⟩ (⟨⟨_, rfl, (j_rng _).1, (j_rng _).2, (by have hbx0 : x0.toInt < 48 := hp1; have hbx1 : x1.toInt < 6 := hp3; obtain ⟨nx0, hnx0, rfl⟩ := jnat hp0 hbx0 (by decide); obtain ⟨nx1, hnx1, rfl⟩ := jnat hp2 hbx1 (by decide); clear hbx0 hbx1; clear hp0 hp1 hp2 hp3; have hcs := (jband (decide_eq_true c2) (jband (decide_eq_true c15) (jband (decide_eq_true c33) (jband (decide_eq_true c54) (jband (decide_eq_true c63) (decide_eq_true c81)))))); clear c2 c15 c33 c54 c63 c81; apply of_decide_eq_true; revert hcs; revert nx1; revert nx0; decide +kernel)⟩, rfl⟩)
            · refine J_iload dX0_turnedInCubes_84 rfl ?_
              refine J_goto (tgt := 93) dX0_turnedInCubes_86 (by decide) ?_
              exact J_ret (r := some (.int _)) dX0_turnedInCubes_93 ⟨rfl, _, rfl, rfl⟩ (⟨⟨_, rfl, (j_rng _).1, (j_rng _).2, (by have hbx0 : x0.toInt < 48 := hp1; have hbx1 : x1.toInt < 6 := hp3; obtain ⟨nx0, hnx0, rfl⟩ := jnat hp0 hbx0 (by decide); obtain ⟨nx1, hnx1, rfl⟩ := jnat hp2 hbx1 (by decide); clear hbx0 hbx1; clear hp0 hp1 hp2 hp3; have hcs := (jband (decide_eq_true c2) (jband (decide_eq_true c15) (jband (decide_eq_true c33) (jband (decide_eq_true c54) (jband (decide_eq_true c63) (decide_eq_true c81)))))); clear c2 c15 c33 c54 c63 c81; apply of_decide_eq_true; revert hcs; revert nx1; revert nx0; decide +kernel)⟩, rfl⟩)
      · refine J_iconst (v := 1) dX0_turnedInCubes_36 (by decide) ?_
        refine J_goto (tgt := 41) dX0_turnedInCubes_37 (by decide) ?_
        refine J_istore dX0_turnedInCubes_41 rfl (by decide) ?_
        refine J_iconst (v := 3) dX0_turnedInCubes_43 (by decide) ?_
        refine J_iload_n dX0_turnedInCubes_44 rfl ?_
        refine J_iconst (v := 3) dX0_turnedInCubes_45 (by decide) ?_
        refine J_ishr dX0_turnedInCubes_46 ?_
        refine J_imul dX0_turnedInCubes_47 ?_
        refine J_iload_n dX0_turnedInCubes_48 rfl ?_
        refine J_iadd dX0_turnedInCubes_49 ?_
        refine J_istore dX0_turnedInCubes_50 rfl (by decide) ?_
        refine J_iload dX0_turnedInCubes_52 rfl ?_
        refine J_if_lt (tgt := 75) dX0_turnedInCubes_54 (by decide) (fun c54 => ?_) (fun c54 => ?_)
        · refine J_iload_n dX0_turnedInCubes_75 rfl ?_
          refine J_istore dX0_turnedInCubes_76 rfl (by decide) ?_
          refine J_iload_n dX0_turnedInCubes_78 rfl ?_
          refine J_iload dX0_turnedInCubes_79 rfl ?_
          refine J_icmp_ne (tgt := 89) dX0_turnedInCubes_81 (by decide) (fun c81 => ?_) (fun c81 => ?_)
          · refine J_iload dX0_turnedInCubes_89 rfl ?_
            refine J_iconst (v := 3) dX0_turnedInCubes_91 (by decide) ?_
            refine J_iadd dX0_turnedInCubes_92 ?_
            exact J_ret (r := some (.int _)) dX0_turnedInCubes_93 ⟨rfl, _, rfl, rfl⟩ (⟨⟨_, rfl, (j_rng _).1, (j_rng _).2, (by have hbx0 : x0.toInt < 48 := hp1; have hbx1 : x1.toInt < 6 := hp3; obtain ⟨nx0, hnx0, rfl⟩ := jnat hp0 hbx0 (by decide); obtain ⟨nx1, hnx1, rfl⟩ := jnat hp2 hbx1 (by decide); clear hbx0 hbx1; clear hp0 hp1 hp2 hp3; have hcs := (jband (decide_eq_true c2) (jband (decide_eq_true c15) (jband (decide_eq_true c33) (jband (decide_eq_true c54) (decide_eq_true c81))))); clear c2 c15 c33 c54 c81; apply of_decide_eq_true; revert hcs; revert nx1; revert nx0; decide +kernel)⟩, rfl⟩)
          · refine J_iload dX0_turnedInCubes_84 rfl ?_
            refine J_goto (tgt := 93) dX0_turnedInCubes_86 (by decide) ?_
            exact J_ret (r := some (.int _)) dX0_turnedInCubes_93 ⟨rfl, _, rfl, rfl⟩ (⟨⟨_, rfl, (j_rng _).1, (j_rng _).2, (by have hbx0 : x0.toInt < 48 := hp1; have hbx1 : x1.toInt < 6 := hp3; obtain ⟨nx0, hnx0, rfl⟩ := jnat hp0 hbx0 (by decide); obtain ⟨nx1, hnx1, rfl⟩ := jnat hp2 hbx1 (by decide); clear hbx0 hbx1; clear hp0 hp1 hp2 hp3; have hcs := (jband (decide_eq_true c2) (jband (decide_eq_true c15) (jband (decide_eq_true c33) (jband (decide_eq_true c54) (decide_eq_true c81))))); clear c2 c15 c33 c54 c81; apply of_decide_eq_true; revert hcs; revert nx1; revert nx0; decide +kernel)⟩, rfl⟩)
        · refine J_iload dX0_turnedInCubes_57 rfl ?_
          refine J_gets (k := 2) rfl jw_fl_X0_33 dX0_turnedInCubes_59 ?_
          refine J_tlen (k := 2) rfl dX0_turnedInCubes_62 rfl ?_
          refine J_icmp_ge (tgt := 75) dX0_turnedInCubes_63 (by decide) (fun c63 => ?_) (fun c63 => ?_)
          · refine J_iload_n dX0_turnedInCubes_75 rfl ?_
            refine J_istore dX0_turnedInCubes_76 rfl (by decide) ?_
            refine J_iload_n dX0_turnedInCubes_78 rfl ?_
            refine J_iload dX0_turnedInCubes_79 rfl ?_
            refine J_icmp_ne (tgt := 89) dX0_turnedInCubes_81 (by decide) (fun c81 => ?_) (fun c81 => ?_)
            · refine J_iload dX0_turnedInCubes_89 rfl ?_
              refine J_iconst (v := 3) dX0_turnedInCubes_91 (by decide) ?_
              refine J_iadd dX0_turnedInCubes_92 ?_
              exact J_ret (r := some (.int _)) dX0_turnedInCubes_93 ⟨rfl, _, rfl, rfl⟩ (⟨⟨_, rfl, (j_rng _).1, (j_rng _).2, (by have hbx0 : x0.toInt < 48 := hp1; have hbx1 : x1.toInt < 6 := hp3; obtain ⟨nx0, hnx0, rfl⟩ := jnat hp0 hbx0 (by decide); obtain ⟨nx1, hnx1, rfl⟩ := jnat hp2 hbx1 (by decide); clear hbx0 hbx1; clear hp0 hp1 hp2 hp3; have hcs := (jband (decide_eq_true c2) (jband (decide_eq_true c15) (jband (decide_eq_true c33) (jband (decide_eq_true c54) (jband (decide_eq_true c63) (decide_eq_true c81)))))); clear c2 c15 c33 c54 c63 c81; apply of_decide_eq_true; revert hcs; revert nx1; revert nx0; decide +kernel)⟩, rfl⟩)
            · refine J_iload dX0_turnedInCubes_84 rfl ?_
              refine J_goto (tgt := 93) dX0_turnedInCubes_86 (by decide) ?_
              exact J_ret (r := some (.int _)) dX0_turnedInCubes_93 ⟨rfl, _, rfl, rfl⟩ (⟨⟨_, rfl, (j_rng _).1, (j_rng _).2, (by have hbx0 : x0.toInt < 48 := hp1; have hbx1 : x1.toInt < 6 := hp3; obtain ⟨nx0, hnx0, rfl⟩ := jnat hp0 hbx0 (by decide); obtain ⟨nx1, hnx1, rfl⟩ := jnat hp2 hbx1 (by decide); clear hbx0 hbx1; clear hp0 hp1 hp2 hp3; have hcs := (jband (decide_eq_true c2) (jband (decide_eq_true c15) (jband (decide_eq_true c33) (jband (decide_eq_true c54) (jband (decide_eq_true c63) (decide_eq_true c81)))))); clear c2 c15 c33 c54 c63 c81; apply of_decide_eq_true; revert hcs; revert nx1; revert nx0; decide +kernel)⟩, rfl⟩)
          · refine J_gets (k := 2) rfl jw_fl_X0_33 dX0_turnedInCubes_66 ?_
            refine J_iload dX0_turnedInCubes_69 rfl ?_
            refine J_ti (k := 2) rfl rfl dX0_turnedInCubes_71 (by exact vp_in_g (by assumption) (by assumption) (by decide)) rfl ?_
            refine J_goto (tgt := 76) dX0_turnedInCubes_72 (by decide) ?_
            refine J_istore dX0_turnedInCubes_76 rfl (by decide) ?_
            refine J_iload_n dX0_turnedInCubes_78 rfl ?_
            refine J_iload dX0_turnedInCubes_79 rfl ?_
            refine J_icmp_ne (tgt := 89) dX0_turnedInCubes_81 (by decide) (fun c81 => ?_) (fun c81 => ?_)
            · refine J_iload dX0_turnedInCubes_89 rfl ?_
              refine J_iconst (v := 3) dX0_turnedInCubes_91 (by decide) ?_
              refine J_iadd dX0_turnedInCubes_92 ?_
              exact J_ret (r := some (.int _)) dX0_turnedInCubes_93 ⟨rfl, _, rfl, rfl⟩ (⟨⟨_, rfl, (j_rng _).1, (j_rng _).2, (by have hbx0 : x0.toInt < 48 := hp1; have hbx1 : x1.toInt < 6 := hp3; obtain ⟨nx0, hnx0, rfl⟩ := jnat hp0 hbx0 (by decide); obtain ⟨nx1, hnx1, rfl⟩ := jnat hp2 hbx1 (by decide); clear hbx0 hbx1; clear hp0 hp1 hp2 hp3; have hcs := (jband (decide_eq_true c2) (jband (decide_eq_true c15) (jband (decide_eq_true c33) (jband (decide_eq_true c54) (jband (decide_eq_true c63) (decide_eq_true c81)))))); clear c2 c15 c33 c54 c63 c81; apply of_decide_eq_true; revert hcs; revert nx1; revert nx0; decide +kernel)⟩, rfl⟩)
            · refine J_iload dX0_turnedInCubes_84 rfl ?_
              refine J_goto (tgt := 93) dX0_turnedInCubes_86 (by decide) ?_
              exact J_ret (r := some (.int _)) dX0_turnedInCubes_93 ⟨rfl, _, rfl, rfl⟩ (⟨⟨_, rfl, (j_rng _).1, (j_rng _).2, (by have hbx0 : x0.toInt < 48 := hp1; have hbx1 : x1.toInt < 6 := hp3; obtain ⟨nx0, hnx0, rfl⟩ := jnat hp0 hbx0 (by decide); obtain ⟨nx1, hnx1, rfl⟩ := jnat hp2 hbx1 (by decide); clear hbx0 hbx1; clear hp0 hp1 hp2 hp3; have hcs := (jband (decide_eq_true c2) (jband (decide_eq_true c15) (jband (decide_eq_true c33) (jband (decide_eq_true c54) (jband (decide_eq_true c63) (decide_eq_true c81)))))); clear c2 c15 c33 c54 c63 c81; apply of_decide_eq_true; revert hcs; revert nx1; revert nx0; decide +kernel)⟩, rfl⟩)
set_option maxRecDepth 100000 in
set_option maxHeartbeats 8000000 in
theorem w_X3_begin_rk {tS : jTS} (d : Nat) (V0 : jH) {l1 l2 l3 l4 : Nat} (a0 : Nat) (x1 : Int32) (M : Int32) (n : Int32) (s : Nat) (xx : Nat) (yy : Nat) (zz : Nat) (S : Nat → Int32) (X : Nat → Int32) (Y : Nat → Int32) (Z : Nat → Int32) (hd : 0 ≤ d) (hW : WT V0) (ha0 : jis V0 (.inr 1) a0) (hf_M : jfI V0 a0 1 0 M) (hf_n : jfI V0 a0 1 6 n) (hr_s : jfR V0 a0 1 1 s) (hr_xx : jfR V0 a0 1 2 xx) (hr_yy : jfR V0 a0 1 3 yy) (hr_zz : jfR V0 a0 1 4 zz) (ha_S : V0 s = some (.inl (6, l1, .inl S))) (ha_X : V0 xx = some (.inl (34, l2, .inl X))) (ha_Y : V0 yy = some (.inl (35, l3, .inl Y))) (ha_Z : V0 zz = some (.inl (36, l4, .inl Z))) : jTot tS mX3_begin d [.ref a0, .int x1] V0 0 0 (fun r V => (jPost [.inr 1] V0 rV) r V ∧ jrk a0 V0 V) := by
  refine jTot.of_J [some (.ref a0), some (.int x1)] moX3_begin (Nat.le_of_ble_eq_true rfl) rfl ?_
  have hrx1 := j_rng x1
  have he : jeff [.inr 1] V0 V0 := jeff.refl _ _
  have hfp : jfp [a0, s, xx, yy, zz] V0 V0 := jfp.rf
  obtain ⟨fs_a0, hO_a0, hK_a0⟩ := WT_obj hW id ha0
  have hF_M := hf_M.get hO_a0
  have hrM : 0 ≤ M.toInt ∧ M.toInt ≤ 120 := jok_rngI hK_a0 rfl hF_M
  have hF_n := hf_n.get hO_a0
  have hrn : 0 ≤ n.toInt ∧ n.toInt ≤ 120 := jok_rngI hK_a0 rfl hF_n
  have hF_s := hr_s.get hO_a0
  obtain ⟨w_s, hFq_s, b_s, hbq_s, hb_s⟩ := hK_a0.2 1 (.inr (some (.inl 6))) rfl
  cases hF_s.symm.trans (hFq_s.trans (congrArg some hbq_s))
  have hF_xx := hr_xx.get hO_a0
  obtain ⟨w_xx, hFq_xx, b_xx, hbq_xx, hb_xx⟩ := hK_a0.2 2 (.inr (some (.inl 34))) rfl
  cases hF_xx.symm.trans (hFq_xx.trans (congrArg some hbq_xx))
  have hF_yy := hr_yy.get hO_a0
  obtain ⟨w_yy, hFq_yy, b_yy, hbq_yy, hb_yy⟩ := hK_a0.2 3 (.inr (some (.inl 35))) rfl
  cases hF_yy.symm.trans (hFq_yy.trans (congrArg some hbq_yy))
  have hF_zz := hr_zz.get hO_a0
  obtain ⟨w_zz, hFq_zz, b_zz, hbq_zz, hb_zz⟩ := hK_a0.2 4 (.inr (some (.inl 36))) rfl
  cases hF_zz.symm.trans (hFq_zz.trans (congrArg some hbq_zz))
  obtain ⟨hN_S, hv_S⟩ := WT_rngI (r := ((-2147483648), 2147483647)) hW id rfl ha_S
  clear hN_S
  obtain ⟨hN_X, hv_X⟩ := WT_rngI (r := ((-2147483648), 2147483647)) hW id rfl ha_X
  clear hN_X
  obtain ⟨hN_Y, hv_Y⟩ := WT_rngI (r := ((-2147483648), 2147483647)) hW id rfl ha_Y
  clear hN_Y
  obtain ⟨hN_Z, hv_Z⟩ := WT_rngI (r := ((-2147483648), 2147483647)) hW id rfl ha_Z
  clear hN_Z
  have ha0_S := ha_S
  have ha0_X := ha_X
  have ha0_Y := ha_Y
  have ha0_Z := ha_Z
  refine J_aload_n dX3_begin_0 rfl ?_
  refine J_iload_n dX3_begin_1 rfl ?_
  refine Jz_putI hO_a0 hW id rfl jf_X3_9 jt_X3_5 jEq.rf dX3_begin_2 (j_rng _).1 (j_rng _).2 (fun _ _ => ⟨rfl, rfl⟩) (fun V2 fs2 hW hx2 hO2 hS2 hT2 hB2 => ?_)
  have hK2 : jokO _ (jFs 1) fs2 := hW _ _ id hO2
  have hF2_0 := (hT2 0 (by decide)).trans hF_M
  have hF2_6 := (hT2 6 (by decide)).trans hF_n
  have hF2_1 := (hT2 1 (by decide)).trans hF_s
  have hF2_2 := (hT2 2 (by decide)).trans hF_xx
  have hF2_3 := (hT2 3 (by decide)).trans hF_yy
  have hF2_4 := (hT2 4 (by decide)).trans hF_zz
  have he := he.trans (hx2.sub (jsub_of rfl))
  have hfp := hfp.trans (jfp.one hB2 List.mem_cons_self)
  have ha0 := ha0.mono hx2.1
  have hb_s := hb_s.mono hx2.1
  have hb_xx := hb_xx.mono hx2.1
  have hb_yy := hb_yy.mono hx2.1
  have hb_zz := hb_zz.mono hx2.1
  have ha_S := hx2.2 _ _ ha_S (jnot_of rfl)
  have ha_X := hx2.2 _ _ ha_X (jnot_of rfl)
  have ha_Y := hx2.2 _ _ ha_Y (jnot_of rfl)
  have ha_Z := hx2.2 _ _ ha_Z (jnot_of rfl)
  refine J_aload_n dX3_begin_5 rfl ?_
  refine Jz_iconst 0 dX3_begin_6 (by decide) (fun y6 he6 => ?_)
  refine Jz_putI hO2 hW id rfl jf_X3_15 jt_X3_6 he6 dX3_begin_7 (by omega) (by omega) (fun _ _ => ⟨rfl, rfl⟩) (fun V7 fs7 hW hx7 hO7 hS7 hT7 hB7 => ?_)
  have hK7 : jokO _ (jFs 1) fs7 := hW _ _ id hO7
  have hF7_5 := (hT7 5 (by decide)).trans hS2
  have hF7_0 := (hT7 0 (by decide)).trans hF2_0
  have hF7_1 := (hT7 1 (by decide)).trans hF2_1
  have hF7_2 := (hT7 2 (by decide)).trans hF2_2
  have hF7_3 := (hT7 3 (by decide)).trans hF2_3
  have hF7_4 := (hT7 4 (by decide)).trans hF2_4
  have he := he.trans (hx7.sub (jsub_of rfl))
  have hfp := hfp.trans (jfp.one hB7 List.mem_cons_self)
  have ha0 := ha0.mono hx7.1
  have hb_s := hb_s.mono hx7.1
  have hb_xx := hb_xx.mono hx7.1
  have hb_yy := hb_yy.mono hx7.1
  have hb_zz := hb_zz.mono hx7.1
  have ha_S := hx7.2 _ _ ha_S (jnot_of rfl)
  have ha_X := hx7.2 _ _ ha_X (jnot_of rfl)
  have ha_Y := hx7.2 _ _ ha_Y (jnot_of rfl)
  have ha_Z := hx7.2 _ _ ha_Z (jnot_of rfl)
  exact J_ret (r := none) dX3_begin_10 ⟨rfl, rfl⟩ (⟨⟨hW, he, rfl⟩, (jrk.mk hr_s hr_xx hr_yy hr_zz hfp hf_M ⟨_, hO7, hF7_0⟩ (jk1.mk ha0_S ha_S) (jk0.mk ha0_X ha_X rfl) (jk0.mk ha0_Y ha_Y rfl) (jk0.mk ha0_Z ha_Z rfl))⟩)
theorem w_X3_begin_rk0 {tS : jTS} (d : Nat) (V0 : jH) (a0 : Nat) (x1 : Int32) (hd : 5 ≤ d) (hW : WT V0) (ha0 : jis V0 (.inr 1) a0)  : jTot tS mX3_begin d [.ref a0, .int x1] V0 0 0 (fun r V => (jPost [.inr 1] V0 rV) r V ∧ jrk a0 V0 V) := by
  obtain ⟨M, n, s, x, y, z, l1, l2, l3, l4, S, X, Y, Z, h0, h6, h1, h2, h3, h4, g1, g2, g3, g4⟩ := WT_row hW ha0
  exact w_X3_begin_rk d V0 a0 x1 M n s x y z S X Y Z (by omega) hW ha0 h0 h6 h1 h2 h3 h4 g1 g2 g3 g4 
set_option maxRecDepth 100000 in
set_option maxHeartbeats 8000000 in
theorem w_X3_drop_rk {tS : jTS} (d : Nat) (V0 : jH) {l1 l2 l3 l4 : Nat} (a0 : Nat) (x1 : Int32) (M : Int32) (n : Int32) (s : Nat) (xx : Nat) (yy : Nat) (zz : Nat) (S : Nat → Int32) (X : Nat → Int32) (Y : Nat → Int32) (Z : Nat → Int32) (hd : 1 ≤ d) (hW : WT V0) (ha0 : jis V0 (.inr 1) a0) (hf_M : jfI V0 a0 1 0 M) (hf_n : jfI V0 a0 1 6 n) (hr_s : jfR V0 a0 1 1 s) (hr_xx : jfR V0 a0 1 2 xx) (hr_yy : jfR V0 a0 1 3 yy) (hr_zz : jfR V0 a0 1 4 zz) (ha_S : V0 s = some (.inl (6, l1, .inl S))) (ha_X : V0 xx = some (.inl (34, l2, .inl X))) (ha_Y : V0 yy = some (.inl (35, l3, .inl Y))) (ha_Z : V0 zz = some (.inl (36, l4, .inl Z))) (hp0 : x1.toInt = 1) : jTot tS mX3_drop d [.ref a0, .int x1] V0 0 0 (fun r V => (jPost [.inr 1] V0 rV) r V ∧ jrk a0 V0 V) := by
  refine jTot.of_J [some (.ref a0), some (.int x1)] moX3_drop (Nat.le_of_ble_eq_true rfl) rfl ?_
  have hrx1 := j_rng x1
  have he : jeff [.inr 1] V0 V0 := jeff.refl _ _
  have hfp : jfp [a0, s, xx, yy, zz] V0 V0 := jfp.rf
  obtain ⟨fs_a0, hO_a0, hK_a0⟩ := WT_obj hW id ha0
  have hF_M := hf_M.get hO_a0
  have hrM : 0 ≤ M.toInt ∧ M.toInt ≤ 120 := jok_rngI hK_a0 rfl hF_M
  have hF_n := hf_n.get hO_a0
  have hrn : 0 ≤ n.toInt ∧ n.toInt ≤ 120 := jok_rngI hK_a0 rfl hF_n
  have hF_s := hr_s.get hO_a0
  obtain ⟨w_s, hFq_s, b_s, hbq_s, hb_s⟩ := hK_a0.2 1 (.inr (some (.inl 6))) rfl
  cases hF_s.symm.trans (hFq_s.trans (congrArg some hbq_s))
  have hF_xx := hr_xx.get hO_a0
  obtain ⟨w_xx, hFq_xx, b_xx, hbq_xx, hb_xx⟩ := hK_a0.2 2 (.inr (some (.inl 34))) rfl
  cases hF_xx.symm.trans (hFq_xx.trans (congrArg some hbq_xx))
  have hF_yy := hr_yy.get hO_a0
  obtain ⟨w_yy, hFq_yy, b_yy, hbq_yy, hb_yy⟩ := hK_a0.2 3 (.inr (some (.inl 35))) rfl
  cases hF_yy.symm.trans (hFq_yy.trans (congrArg some hbq_yy))
  have hF_zz := hr_zz.get hO_a0
  obtain ⟨w_zz, hFq_zz, b_zz, hbq_zz, hb_zz⟩ := hK_a0.2 4 (.inr (some (.inl 36))) rfl
  cases hF_zz.symm.trans (hFq_zz.trans (congrArg some hbq_zz))
  obtain ⟨hN_S, hv_S⟩ := WT_rngI (r := ((-2147483648), 2147483647)) hW id rfl ha_S
  clear hN_S
  obtain ⟨hN_X, hv_X⟩ := WT_rngI (r := ((-2147483648), 2147483647)) hW id rfl ha_X
  clear hN_X
  obtain ⟨hN_Y, hv_Y⟩ := WT_rngI (r := ((-2147483648), 2147483647)) hW id rfl ha_Y
  clear hN_Y
  obtain ⟨hN_Z, hv_Z⟩ := WT_rngI (r := ((-2147483648), 2147483647)) hW id rfl ha_Z
  clear hN_Z
  have ha0_S := ha_S
  have ha0_X := ha_X
  have ha0_Y := ha_Y
  have ha0_Z := ha_Z
  refine J_aload_n dX3_drop_0 rfl ?_
  refine Jz_iconst 0 dX3_drop_1 (by decide) (fun y1 he1 => ?_)
  refine J_aload_n dX3_drop_2 rfl ?_
  refine J_get jf_X3_15 dX3_drop_3 hO_a0 hF_n ?_
  refine Jz_iconst 0 dX3_drop_6 (by decide) (fun y6 he6 => ?_)
  refine J_iload_n dX3_drop_7 rfl ?_
  refine J_mmax jw_ml_X3_24 dX3_drop_8 (by omega) (Nat.le_of_ble_eq_true rfl) ?_
  have hz8 : jEq (if y6 < x1 then x1 else y6).toInt (1) := by have q := jmaxi (x := y6) (y := x1) he6 jEq.rf; exact (show (if y6 < x1 then x1 else y6).toInt = 1 by omega)
  generalize (if y6 < x1 then x1 else y6) = y8 at hz8 ⊢
  refine Jz_isub jEq.rf hz8 dX3_drop_11 (by omega) (by omega) (fun y11 he11 => ?_)
  refine J_mmax jw_ml_X3_24 dX3_drop_12 (by omega) (Nat.le_of_ble_eq_true rfl) ?_
  have hz12 : jEq (if y1 < y11 then y11 else y1).toInt (if 1 ≤ n.toInt then n.toInt - 1 else 0) := by have q := jmaxi (x := y1) (y := y11) he1 he11; exact (show (if y1 < y11 then y11 else y1).toInt = if 1 ≤ n.toInt then n.toInt - 1 else 0 by omega)
  generalize (if y1 < y11 then y11 else y1) = y12 at hz12 ⊢
  refine Jz_putI hO_a0 hW id rfl jf_X3_15 jt_X3_6 hz12 dX3_drop_15 (by omega) (by omega) (fun _ _ => ⟨rfl, rfl⟩) (fun V15 fs15 hW hx15 hO15 hS15 hT15 hB15 => ?_)
  have hK15 : jokO _ (jFs 1) fs15 := hW _ _ id hO15
  have hF15_0 := (hT15 0 (by decide)).trans hF_M
  have hF15_1 := (hT15 1 (by decide)).trans hF_s
  have hF15_2 := (hT15 2 (by decide)).trans hF_xx
  have hF15_3 := (hT15 3 (by decide)).trans hF_yy
  have hF15_4 := (hT15 4 (by decide)).trans hF_zz
  have he := he.trans (hx15.sub (jsub_of rfl))
  have hfp := hfp.trans (jfp.one hB15 List.mem_cons_self)
  have ha0 := ha0.mono hx15.1
  have hb_s := hb_s.mono hx15.1
  have hb_xx := hb_xx.mono hx15.1
  have hb_yy := hb_yy.mono hx15.1
  have hb_zz := hb_zz.mono hx15.1
  have ha_S := hx15.2 _ _ ha_S (jnot_of rfl)
  have ha_X := hx15.2 _ _ ha_X (jnot_of rfl)
  have ha_Y := hx15.2 _ _ ha_Y (jnot_of rfl)
  have ha_Z := hx15.2 _ _ ha_Z (jnot_of rfl)
  exact J_ret (r := none) dX3_drop_18 ⟨rfl, rfl⟩ (⟨⟨hW, he, rfl⟩, (jrk.mk hr_s hr_xx hr_yy hr_zz hfp hf_M ⟨_, hO15, hF15_0⟩ (jk1.mk ha0_S ha_S) (jk0.mk ha0_X ha_X rfl) (jk0.mk ha0_Y ha_Y rfl) (jk0.mk ha0_Z ha_Z rfl))⟩)
theorem w_X3_drop_rk0 {tS : jTS} (d : Nat) (V0 : jH) (a0 : Nat) (x1 : Int32) (hd : 5 ≤ d) (hW : WT V0) (ha0 : jis V0 (.inr 1) a0) (hq0 : x1.toInt = 1) : jTot tS mX3_drop d [.ref a0, .int x1] V0 0 0 (fun r V => (jPost [.inr 1] V0 rV) r V ∧ jrk a0 V0 V) := by
  obtain ⟨M, n, s, x, y, z, l1, l2, l3, l4, S, X, Y, Z, h0, h6, h1, h2, h3, h4, g1, g2, g3, g4⟩ := WT_row hW ha0
  exact w_X3_drop_rk d V0 a0 x1 M n s x y z S X Y Z (by omega) hW ha0 h0 h6 h1 h2 h3 h4 g1 g2 g3 g4 hq0
set_option maxRecDepth 100000 in
set_option maxHeartbeats 8000000 in
theorem w_X3_lay_rk {tS : jTS} (d : Nat) (V0 : jH) {l1 l2 l3 l4 : Nat} (a0 : Nat) (x1 : Int32) (M : Int32) (n : Int32) (s : Nat) (xx : Nat) (yy : Nat) (zz : Nat) (S : Nat → Int32) (X : Nat → Int32) (Y : Nat → Int32) (Z : Nat → Int32) (hd : 3 ≤ d) (hW : WT V0) (ha0 : jis V0 (.inr 1) a0) (hf_M : jfI V0 a0 1 0 M) (hf_n : jfI V0 a0 1 6 n) (hr_s : jfR V0 a0 1 1 s) (hr_xx : jfR V0 a0 1 2 xx) (hr_yy : jfR V0 a0 1 3 yy) (hr_zz : jfR V0 a0 1 4 zz) (ha_S : V0 s = some (.inl (6, l1, .inl S))) (ha_X : V0 xx = some (.inl (34, l2, .inl X))) (ha_Y : V0 yy = some (.inl (35, l3, .inl Y))) (ha_Z : V0 zz = some (.inl (36, l4, .inl Z))) : jTot tS mX3_lay d [.ref a0, .int x1] V0 0 0 (fun r V => (jPost [.inr 1, .inl 6, .inl 34, .inl 35, .inl 36] V0 (fun r _ => ∃ y : Int32, r = some (.int y) ∧ (0 ≤ y.toInt) ∧ (y.toInt ≤ 1))) r V ∧ jrk a0 V0 V) := by
  refine jTot.of_J [some (.ref a0), some (.int x1), none, none, none] moX3_lay (Nat.le_of_ble_eq_true rfl) rfl ?_
  have hrx1 := j_rng x1
  have he : jeff [.inr 1, .inl 6, .inl 34, .inl 35, .inl 36] V0 V0 := jeff.refl _ _
  have hfp : jfp [a0, s, xx, yy, zz] V0 V0 := jfp.rf
  obtain ⟨fs_a0, hO_a0, hK_a0⟩ := WT_obj hW id ha0
  have hF_M := hf_M.get hO_a0
  have hrM : 0 ≤ M.toInt ∧ M.toInt ≤ 120 := jok_rngI hK_a0 rfl hF_M
  have hF_n := hf_n.get hO_a0
  have hrn : 0 ≤ n.toInt ∧ n.toInt ≤ 120 := jok_rngI hK_a0 rfl hF_n
  have hF_s := hr_s.get hO_a0
  obtain ⟨w_s, hFq_s, b_s, hbq_s, hb_s⟩ := hK_a0.2 1 (.inr (some (.inl 6))) rfl
  cases hF_s.symm.trans (hFq_s.trans (congrArg some hbq_s))
  have hF_xx := hr_xx.get hO_a0
  obtain ⟨w_xx, hFq_xx, b_xx, hbq_xx, hb_xx⟩ := hK_a0.2 2 (.inr (some (.inl 34))) rfl
  cases hF_xx.symm.trans (hFq_xx.trans (congrArg some hbq_xx))
  have hF_yy := hr_yy.get hO_a0
  obtain ⟨w_yy, hFq_yy, b_yy, hbq_yy, hb_yy⟩ := hK_a0.2 3 (.inr (some (.inl 35))) rfl
  cases hF_yy.symm.trans (hFq_yy.trans (congrArg some hbq_yy))
  have hF_zz := hr_zz.get hO_a0
  obtain ⟨w_zz, hFq_zz, b_zz, hbq_zz, hb_zz⟩ := hK_a0.2 4 (.inr (some (.inl 36))) rfl
  cases hF_zz.symm.trans (hFq_zz.trans (congrArg some hbq_zz))
  obtain ⟨hN_S, hv_S⟩ := WT_rngI (r := ((-2147483648), 2147483647)) hW id rfl ha_S
  clear hN_S
  obtain ⟨hN_X, hv_X⟩ := WT_rngI (r := ((-2147483648), 2147483647)) hW id rfl ha_X
  clear hN_X
  obtain ⟨hN_Y, hv_Y⟩ := WT_rngI (r := ((-2147483648), 2147483647)) hW id rfl ha_Y
  clear hN_Y
  obtain ⟨hN_Z, hv_Z⟩ := WT_rngI (r := ((-2147483648), 2147483647)) hW id rfl ha_Z
  clear hN_Z
  have ha0_S := ha_S
  have ha0_X := ha_X
  have ha0_Y := ha_Y
  have ha0_Z := ha_Z
  refine J_aload_n dX3_lay_0 rfl ?_
  refine J_get jf_X3_15 dX3_lay_1 hO_a0 hF_n ?_
  refine J_aload_n dX3_lay_4 rfl ?_
  refine J_get jf_X3_27 dX3_lay_5 hO_a0 hF_M ?_
  refine Jz_icmp_ge (tgt := 19) jEq.rf jEq.rf dX3_lay_8 (by decide) (fun c8 => ?_) (fun c8 => ?_)
  · refine Jz_iconst 0 dX3_lay_19 (by decide) (fun y19 he19 => ?_)
    exact J_ret (r := some (.int _)) dX3_lay_20 ⟨rfl, _, rfl, (nar_b (by (try simp only [he19.eq, true_and, and_true]) <;> omega) (by (try simp only [he19.eq, true_and, and_true]) <;> omega))⟩ (⟨⟨hW, he, ⟨_, rfl, (by (try simp only [he19.eq, true_and, and_true]) <;> omega), (by (try simp only [he19.eq, true_and, and_true]) <;> omega)⟩⟩, jrk.rf⟩)
  · refine J_aload_n dX3_lay_11 rfl ?_
    refine J_iload_n dX3_lay_12 rfl ?_
    refine Jw_callV1 (q9 := (RX3, TX3, 7)) moX3_leads jw_ml_X3_73 jw_im_X3_leads jw_se_X3_leads ha0 rfl rfl dX3_lay_13 (w_X3_leads (d - 1) _ a0 x1 (by omega) hW ha0) (by omega) (Nat.zero_le _) (Nat.zero_le _) (Nat.le_of_ble_eq_true rfl) (fun r13 V13 h13 => ?_)
    obtain ⟨⟨y13, rfl, hl13, hh13⟩, hE13⟩ := h13
    have hE13 := hE13.symm
    subst hE13
    refine Jz_if_ne (tgt := 21) jEq.rf dX3_lay_16 (by decide) (fun c16 => ?_) (fun c16 => ?_)
    · refine J_aload_n dX3_lay_21 rfl ?_
      refine Jw_callV0 (q9 := (RX3, TX3, 7)) moX3_endX jw_ml_X3_47 jw_im_X3_endX jw_se_X3_endX ha0 rfl rfl dX3_lay_22 (w_X3_endX (d - 1) _ a0 (by omega) hW ha0) (by omega) (Nat.zero_le _) (Nat.zero_le _) (Nat.le_of_ble_eq_true rfl) (fun r22 V22 h22 => ?_)
      obtain ⟨⟨y22, rfl, hl22, hh22⟩, hE22⟩ := h22
      have hE22 := hE22.symm
      subst hE22
      clear hl22 hh22
      refine J_aload_n dX3_lay_25 rfl ?_
      obtain ⟨w26, hF26, y26, rfl, hl26, hh26⟩ := hK_a0.2 5 (.inl ((-2147483648), 2147483647)) rfl
      dsimp only at hl26 hh26
      refine J_get jf_X3_9 dX3_lay_26 hO_a0 hF26 ?_
      refine J_iload_n dX3_lay_29 rfl ?_
      refine J_callS2 moX0_shiftX jw_ml_X3_51 jw_st_X0_shiftX dX3_lay_30 (w_X0_shiftX (d - 1) _ y26 x1 (by omega)  ) (by omega) (Nat.zero_le _) (Nat.zero_le _) (Nat.le_of_ble_eq_true rfl) (fun r30 V30 h30 => ?_)
      obtain ⟨⟨y30, rfl, hl30, hh30⟩, hE30⟩ := h30
      have hE30 := hE30.symm
      subst hE30
      clear hl30 hh30
      refine Jz_iaddw dX3_lay_33 (fun y33  => ?_)
      refine J_istore_n dX3_lay_34 rfl (by decide) ?_
      refine J_aload_n dX3_lay_35 rfl ?_
      refine Jw_callV0 (q9 := (RX3, TX3, 7)) moX3_endY jw_ml_X3_56 jw_im_X3_endY jw_se_X3_endY ha0 rfl rfl dX3_lay_36 (w_X3_endY (d - 1) _ a0 (by omega) hW ha0) (by omega) (Nat.zero_le _) (Nat.zero_le _) (Nat.le_of_ble_eq_true rfl) (fun r36 V36 h36 => ?_)
      obtain ⟨⟨y36, rfl, hl36, hh36⟩, hE36⟩ := h36
      have hE36 := hE36.symm
      subst hE36
      clear hl36 hh36
      refine J_aload_n dX3_lay_39 rfl ?_
      refine J_get jf_X3_9 dX3_lay_40 hO_a0 hF26 ?_
      refine J_iload_n dX3_lay_43 rfl ?_
      refine J_aload_n dX3_lay_44 rfl ?_
      refine Jw_callV0 (q9 := (RX3, TX3, 7)) moX3_endX jw_ml_X3_47 jw_im_X3_endX jw_se_X3_endX ha0 rfl rfl dX3_lay_45 (w_X3_endX (d - 1) _ a0 (by omega) hW ha0) (by omega) (Nat.zero_le _) (Nat.zero_le _) (Nat.le_of_ble_eq_true rfl) (fun r45 V45 h45 => ?_)
      obtain ⟨⟨y45, rfl, hl45, hh45⟩, hE45⟩ := h45
      have hE45 := hE45.symm
      subst hE45
      clear hl45 hh45
      refine J_aload_n dX3_lay_48 rfl ?_
      refine Jw_callV0 (q9 := (RX3, TX3, 7)) moX3_endY jw_ml_X3_56 jw_im_X3_endY jw_se_X3_endY ha0 rfl rfl dX3_lay_49 (w_X3_endY (d - 1) _ a0 (by omega) hW ha0) (by omega) (Nat.zero_le _) (Nat.zero_le _) (Nat.le_of_ble_eq_true rfl) (fun r49 V49 h49 => ?_)
      obtain ⟨⟨y49, rfl, hl49, hh49⟩, hE49⟩ := h49
      have hE49 := hE49.symm
      subst hE49
      clear hl49 hh49
      refine J_callS4 moX0_shiftY jw_ml_X3_59 jw_st_X0_shiftY dX3_lay_52 (w_X0_shiftY (d - 1) _ y26 x1 y45 y49 (by omega)  ) (by omega) (Nat.zero_le _) (Nat.zero_le _) (Nat.le_of_ble_eq_true rfl) (fun r52 V52 h52 => ?_)
      obtain ⟨⟨y52, rfl, hl52, hh52⟩, hE52⟩ := h52
      have hE52 := hE52.symm
      subst hE52
      clear hl52 hh52
      refine Jz_iaddw dX3_lay_55 (fun y55  => ?_)
      refine J_istore_n dX3_lay_56 rfl (by decide) ?_
      refine J_aload_n dX3_lay_57 rfl ?_
      refine Jw_callV0 (q9 := (RX3, TX3, 7)) moX3_endZ jw_ml_X3_63 jw_im_X3_endZ jw_se_X3_endZ ha0 rfl rfl dX3_lay_58 (w_X3_endZ (d - 1) _ a0 (by omega) hW ha0) (by omega) (Nat.zero_le _) (Nat.zero_le _) (Nat.le_of_ble_eq_true rfl) (fun r58 V58 h58 => ?_)
      obtain ⟨⟨y58, rfl, hl58, hh58⟩, hE58⟩ := h58
      have hE58 := hE58.symm
      subst hE58
      clear hl58 hh58
      refine J_aload_n dX3_lay_61 rfl ?_
      refine J_get jf_X3_9 dX3_lay_62 hO_a0 hF26 ?_
      refine J_iload_n dX3_lay_65 rfl ?_
      refine J_callS2 moX0_shiftZ jw_ml_X3_66 jw_st_X0_shiftZ dX3_lay_66 (w_X0_shiftZ (d - 1) _ y26 x1 (by omega)  ) (by omega) (Nat.zero_le _) (Nat.zero_le _) (Nat.le_of_ble_eq_true rfl) (fun r66 V66 h66 => ?_)
      obtain ⟨⟨y66, rfl, hl66, hh66⟩, hE66⟩ := h66
      have hE66 := hE66.symm
      subst hE66
      clear hl66 hh66
      refine Jz_iaddw dX3_lay_69 (fun y69  => ?_)
      refine J_istore dX3_lay_70 rfl (by decide) ?_
      refine J_aload_n dX3_lay_72 rfl ?_
      refine J_get jf_X3_30 dX3_lay_73 hO_a0 hF_s ?_
      refine J_aload_n dX3_lay_76 rfl ?_
      refine J_get jf_X3_15 dX3_lay_77 hO_a0 hF_n ?_
      refine J_iload_n dX3_lay_80 rfl ?_
      refine J_callSN3 moX6_put (host := "WalkGrounds") (List.mem_of_getElem? (i := 1) rfl) jw_st_X6_put dX3_lay_81 (w_X6_put_z (d - 1) _ s n x1 hW ha_S (WT_rngI (r := (-2147483648, 2147483647)) hW id rfl ha_S).1 rfl rfl (by omega)) (by omega) (Nat.zero_le _) (Nat.zero_le _) (Nat.le_of_ble_eq_true rfl) (fun r81 V81 h81 => ?_)
      obtain ⟨rfl, hW, hx81, hB81, G81, hA81, hp81, ho81⟩ := h81
      obtain ⟨hN81, hv81⟩ := WT_rngI (r := (-2147483648, 2147483647)) hW id rfl hA81
      clear hN81
      have he := he.trans (hx81.sub (jsub_of rfl))
      have hfp := hfp.trans (jfp.one hB81 (List.mem_cons_of_mem _ List.mem_cons_self))
      have ha0 := ha0.mono hx81.1
      have hb_s := hb_s.mono hx81.1
      have hb_xx := hb_xx.mono hx81.1
      have hb_yy := hb_yy.mono hx81.1
      have hb_zz := hb_zz.mono hx81.1
      have hO_a0 := hx81.2 _ _ hO_a0 (jnot_of rfl)
      have hK_a0 := hK_a0.mono hx81.1
      have ha_X := hx81.2 _ _ ha_X (jnot_of rfl)
      have ha_Y := hx81.2 _ _ ha_Y (jnot_of rfl)
      have ha_Z := hx81.2 _ _ ha_Z (jnot_of rfl)
      · refine J_aload_n dX3_lay_84 rfl ?_
        refine J_dup dX3_lay_85 rfl ?_
        refine J_get jf_X3_15 dX3_lay_86 hO_a0 hF_n ?_
        refine Jz_iconst 1 dX3_lay_89 (by decide) (fun y89 he89 => ?_)
        refine Jz_iadd jEq.rf he89 dX3_lay_90 (by omega) (by omega) (fun y90 he90 => ?_)
        refine Jz_putI hO_a0 hW id rfl jf_X3_15 jt_X3_6 he90 dX3_lay_91 (by omega) (by omega) (fun _ _ => ⟨rfl, rfl⟩) (fun V91 fs91 hW hx91 hO91 hS91 hT91 hB91 => ?_)
        have hK91 : jokO _ (jFs 1) fs91 := hW _ _ id hO91
        have hF91_0 := (hT91 0 (by decide)).trans hF_M
        have hF91_1 := (hT91 1 (by decide)).trans hF_s
        have hF91_2 := (hT91 2 (by decide)).trans hF_xx
        have hF91_3 := (hT91 3 (by decide)).trans hF_yy
        have hF91_4 := (hT91 4 (by decide)).trans hF_zz
        have hF91_5 := (hT91 5 (by decide)).trans hF26
        have he := he.trans (hx91.sub (jsub_of rfl))
        have hfp := hfp.trans (jfp.one hB91 List.mem_cons_self)
        have ha0 := ha0.mono hx91.1
        have hb_s := hb_s.mono hx91.1
        have hb_xx := hb_xx.mono hx91.1
        have hb_yy := hb_yy.mono hx91.1
        have hb_zz := hb_zz.mono hx91.1
        have ha_X := hx91.2 _ _ ha_X (jnot_of rfl)
        have ha_Y := hx91.2 _ _ ha_Y (jnot_of rfl)
        have ha_Z := hx91.2 _ _ ha_Z (jnot_of rfl)
        have hA81 := hx91.2 _ _ hA81 (jnot_of rfl)
        refine J_aload_n dX3_lay_94 rfl ?_
        refine J_get jf_X3_34 dX3_lay_95 hO91 hF91_2 ?_
        refine J_aload_n dX3_lay_98 rfl ?_
        refine J_get jf_X3_15 dX3_lay_99 hO91 hS91 ?_
        refine J_iload_n dX3_lay_102 rfl ?_
        refine J_callSN3 moX6_put (host := "WalkGrounds") (List.mem_of_getElem? (i := 1) rfl) jw_st_X6_put dX3_lay_103 (w_X6_put_z (d - 1) _ xx y90 y33 hW ha_X (WT_rngI (r := (-2147483648, 2147483647)) hW id rfl ha_X).1 rfl rfl (by (try simp only [he90.eq, true_and, and_true]) <;> omega)) (by omega) (Nat.zero_le _) (Nat.zero_le _) (Nat.le_of_ble_eq_true rfl) (fun r103 V103 h103 => ?_)
        obtain ⟨rfl, hW, hx103, hB103, G103, hA103, hp103, ho103⟩ := h103
        simp only [he90.eq] at hp103 ho103
        obtain ⟨hN103, hv103⟩ := WT_rngI (r := (-2147483648, 2147483647)) hW id rfl hA103
        clear hN103
        have he := he.trans (hx103.sub (jsub_of rfl))
        have hfp := hfp.trans (jfp.one hB103 (List.mem_cons_of_mem _ (List.mem_cons_of_mem _ List.mem_cons_self)))
        have ha0 := ha0.mono hx103.1
        have hb_s := hb_s.mono hx103.1
        have hb_xx := hb_xx.mono hx103.1
        have hb_yy := hb_yy.mono hx103.1
        have hb_zz := hb_zz.mono hx103.1
        have hO91 := hx103.2 _ _ hO91 (jnot_of rfl)
        have hK91 := hK91.mono hx103.1
        have ha_Y := hx103.2 _ _ ha_Y (jnot_of rfl)
        have ha_Z := hx103.2 _ _ ha_Z (jnot_of rfl)
        have hA81 := hx103.2 _ _ hA81 (jnot_of rfl)
        · refine J_aload_n dX3_lay_106 rfl ?_
          refine J_get jf_X3_37 dX3_lay_107 hO91 hF91_3 ?_
          refine J_aload_n dX3_lay_110 rfl ?_
          refine J_get jf_X3_15 dX3_lay_111 hO91 hS91 ?_
          refine J_iload_n dX3_lay_114 rfl ?_
          refine J_callSN3 moX6_put (host := "WalkGrounds") (List.mem_of_getElem? (i := 1) rfl) jw_st_X6_put dX3_lay_115 (w_X6_put_z (d - 1) _ yy y90 y55 hW ha_Y (WT_rngI (r := (-2147483648, 2147483647)) hW id rfl ha_Y).1 rfl rfl (by (try simp only [he90.eq, true_and, and_true]) <;> omega)) (by omega) (Nat.zero_le _) (Nat.zero_le _) (Nat.le_of_ble_eq_true rfl) (fun r115 V115 h115 => ?_)
          obtain ⟨rfl, hW, hx115, hB115, G115, hA115, hp115, ho115⟩ := h115
          simp only [he90.eq] at hp115 ho115
          obtain ⟨hN115, hv115⟩ := WT_rngI (r := (-2147483648, 2147483647)) hW id rfl hA115
          clear hN115
          have he := he.trans (hx115.sub (jsub_of rfl))
          have hfp := hfp.trans (jfp.one hB115 (List.mem_cons_of_mem _ (List.mem_cons_of_mem _ (List.mem_cons_of_mem _ List.mem_cons_self))))
          have ha0 := ha0.mono hx115.1
          have hb_s := hb_s.mono hx115.1
          have hb_xx := hb_xx.mono hx115.1
          have hb_yy := hb_yy.mono hx115.1
          have hb_zz := hb_zz.mono hx115.1
          have hO91 := hx115.2 _ _ hO91 (jnot_of rfl)
          have hK91 := hK91.mono hx115.1
          have ha_Z := hx115.2 _ _ ha_Z (jnot_of rfl)
          have hA81 := hx115.2 _ _ hA81 (jnot_of rfl)
          have hA103 := hx115.2 _ _ hA103 (jnot_of rfl)
          · refine J_aload_n dX3_lay_118 rfl ?_
            refine J_get jf_X3_40 dX3_lay_119 hO91 hF91_4 ?_
            refine J_aload_n dX3_lay_122 rfl ?_
            refine J_get jf_X3_15 dX3_lay_123 hO91 hS91 ?_
            refine J_iload dX3_lay_126 rfl ?_
            refine J_callSN3 moX6_put (host := "WalkGrounds") (List.mem_of_getElem? (i := 1) rfl) jw_st_X6_put dX3_lay_128 (w_X6_put_z (d - 1) _ zz y90 y69 hW ha_Z (WT_rngI (r := (-2147483648, 2147483647)) hW id rfl ha_Z).1 rfl rfl (by (try simp only [he90.eq, true_and, and_true]) <;> omega)) (by omega) (Nat.zero_le _) (Nat.zero_le _) (Nat.le_of_ble_eq_true rfl) (fun r128 V128 h128 => ?_)
            obtain ⟨rfl, hW, hx128, hB128, G128, hA128, hp128, ho128⟩ := h128
            simp only [he90.eq] at hp128 ho128
            obtain ⟨hN128, hv128⟩ := WT_rngI (r := (-2147483648, 2147483647)) hW id rfl hA128
            clear hN128
            have he := he.trans (hx128.sub (jsub_of rfl))
            have hfp := hfp.trans (jfp.one hB128 (List.mem_cons_of_mem _ (List.mem_cons_of_mem _ (List.mem_cons_of_mem _ (List.mem_cons_of_mem _ List.mem_cons_self)))))
            have ha0 := ha0.mono hx128.1
            have hb_s := hb_s.mono hx128.1
            have hb_xx := hb_xx.mono hx128.1
            have hb_yy := hb_yy.mono hx128.1
            have hb_zz := hb_zz.mono hx128.1
            have hO91 := hx128.2 _ _ hO91 (jnot_of rfl)
            have hK91 := hK91.mono hx128.1
            have hA81 := hx128.2 _ _ hA81 (jnot_of rfl)
            have hA103 := hx128.2 _ _ hA103 (jnot_of rfl)
            have hA115 := hx128.2 _ _ hA115 (jnot_of rfl)
            · refine Jz_iconst 1 dX3_lay_131 (by decide) (fun y131 he131 => ?_)
              exact J_ret (r := some (.int _)) dX3_lay_132 ⟨rfl, _, rfl, (nar_b (by (try simp only [he131.eq, true_and, and_true]) <;> omega) (by (try simp only [he131.eq, true_and, and_true]) <;> omega))⟩ (⟨⟨hW, he, ⟨_, rfl, (by (try simp only [he131.eq, true_and, and_true]) <;> omega), (by (try simp only [he131.eq, true_and, and_true]) <;> omega)⟩⟩, (jrk.mk hr_s hr_xx hr_yy hr_zz hfp hf_M ⟨_, hO91, hF91_0⟩ (jk1.mk ha0_S hA81) (jk0.mk ha0_X hA103 (ho103 0 (by omega))) (jk0.mk ha0_Y hA115 (ho115 0 (by omega))) (jk0.mk ha0_Z hA128 (ho128 0 (by omega))))⟩)
    · refine Jz_iconst 0 dX3_lay_19 (by decide) (fun y19 he19 => ?_)
      exact J_ret (r := some (.int _)) dX3_lay_20 ⟨rfl, _, rfl, (nar_b (by (try simp only [he19.eq, true_and, and_true]) <;> omega) (by (try simp only [he19.eq, true_and, and_true]) <;> omega))⟩ (⟨⟨hW, he, ⟨_, rfl, (by (try simp only [he19.eq, true_and, and_true]) <;> omega), (by (try simp only [he19.eq, true_and, and_true]) <;> omega)⟩⟩, jrk.rf⟩)
theorem w_X3_lay_rk0 {tS : jTS} (d : Nat) (V0 : jH) (a0 : Nat) (x1 : Int32) (hd : 5 ≤ d) (hW : WT V0) (ha0 : jis V0 (.inr 1) a0)  : jTot tS mX3_lay d [.ref a0, .int x1] V0 0 0 (fun r V => (jPost [.inr 1, .inl 6, .inl 34, .inl 35, .inl 36] V0 (fun r _ => ∃ y : Int32, r = some (.int y) ∧ (0 ≤ y.toInt) ∧ (y.toInt ≤ 1))) r V ∧ jrk a0 V0 V) := by
  obtain ⟨M, n, s, x, y, z, l1, l2, l3, l4, S, X, Y, Z, h0, h6, h1, h2, h3, h4, g1, g2, g3, g4⟩ := WT_row hW ha0
  exact w_X3_lay_rk d V0 a0 x1 M n s x y z S X Y Z (by omega) hW ha0 h0 h6 h1 h2 h3 h4 g1 g2 g3 g4 
set_option maxRecDepth 100000 in
set_option maxHeartbeats 4000000 in
theorem w_X3_init {tS : jTS} (d : Nat) (V0 : jH) (p : Nat → Prop) (q : Nat) (x1 : Int32)  (hd : 1 ≤ d) (hW : WTx (fun a => p a ∨ a = q) V0) (hq : V0 q = some (.inr (1, [.int 0, .null, .null, .null, .null, .int 0, .int 0]))) (hnp : ¬ p q)   : jTot tS mX3_init d [.ref q, .int x1] V0 4 484 (fun r V => r = none ∧ WTx p V ∧ jeff [.inr 1] V0 V ∧ jis V (.inr 1) q ∧ (jnw V0 V q x1)) := by
  refine jTot.of_J [some (.ref q), some (.int x1)] moX3_init (Nat.le_of_ble_eq_true rfl) rfl ?_
  have he : jeff [.inr 1] V0 V0 := jeff.refl _ _
  have hkp : jfa [q] V0 V0 := jfa.rf
  refine J_aload_n dX3_init_0 rfl ?_
  refine J_objInit jw_ml_X3_3 jw_oi2 jw_oi3 dX3_init_1 (by omega) (Nat.le_of_ble_eq_true rfl) ?_
  refine J_aload_n dX3_init_4 rfl ?_
  refine J_iconst (v := 0) dX3_init_5 (by decide) ?_
  refine Jc_put jf_X3_9 jt_X3_5 dX3_init_6 hq rfl rfl (Nat.le_of_ble_eq_true rfl) (fun _ h => by cases h) hW (fun V6 hq hW hx6 hB6 => ?_)
  have hkp := hkp.trans he.1 (jfa.one hB6)
  have he := he.trans (hx6.sub (jsub_of rfl))
  refine J_aload_n dX3_init_9 rfl ?_
  refine J_iconst (v := 0) dX3_init_10 (by decide) ?_
  refine Jc_put jf_X3_15 jt_X3_6 dX3_init_11 hq rfl rfl (Nat.le_of_ble_eq_true rfl) (fun _ h => by cases h) hW (fun V11 hq hW hx11 hB11 => ?_)
  have hkp := hkp.trans he.1 (jfa.one hB11)
  have he := he.trans (hx11.sub (jsub_of rfl))
  refine J_aload_n dX3_init_14 rfl ?_
  refine J_iconst (v := 0) dX3_init_15 (by decide) ?_
  refine J_iload_n dX3_init_16 rfl ?_
  refine J_bipush (v := 120) dX3_init_17 (by decide) ?_
  refine J_mmin jw_ml_X3_18 dX3_init_19 (by omega) (Nat.le_of_ble_eq_true rfl) ?_
  refine J_mmax jw_ml_X3_24 dX3_init_22 (by omega) (Nat.le_of_ble_eq_true rfl) ?_
  refine Jc_putF jf_X3_27 jt_X3_0 rfl (fun _ h => by cases h; rfl) dX3_init_25 hq rfl rfl (Nat.le_of_ble_eq_true rfl) (fun _ h => by cases h) hW (fun V25 hq hW hx25 hB25 => ?_)
  have hkp := hkp.trans he.1 (jfa.one hB25)
  have he := he.trans (hx25.sub (jsub_of rfl))
  refine J_aload_n dX3_init_28 rfl ?_
  refine J_aload_n dX3_init_29 rfl ?_
  refine J_get jf_X3_27 dX3_init_30 hq rfl ?_
  refine Jc_newax (atype := .int) (t := 6) (B := 121) (x := .inl (fun _ => 0)) jw_ac_int rfl (fun _ h => by cases h) (by decide) dX3_init_33 (jmost_lo _) (jmost_hi _) (by decide) (fun _ _ => rfl) (fun hN => jok_zI rfl (by decide) (by decide) (fun m h => by cases h <;> rfl) hN) (by decide) (by decide) hW (fun b33 V33 hn33 hb33 hk33 hW hx33 hA33 => ?_)
  have hz33 := he.1.none hn33
  have hkp := hkp.trans he.1 (jfa.new hk33)
  have he := he.trans (hx33.sub (jsub_of rfl))
  have hq := hk33 _ _ hq
  refine Jc_putF jf_X3_30 jt_X3_1 rfl (fun _ h => by cases h; rfl) dX3_init_35 hq rfl rfl (Nat.le_of_ble_eq_true rfl) (fun _ h => by cases h) hW (fun V35 hq hW hx35 hB35 => ?_)
  have hkp := hkp.trans he.1 (jfa.one hB35)
  have he := he.trans (hx35.sub (jsub_of rfl))
  have hb33 := hb33.mono hx35.1
  have hA33 := hx35.2 _ _ hA33 (jnot_of rfl)
  refine J_aload_n dX3_init_38 rfl ?_
  refine J_aload_n dX3_init_39 rfl ?_
  refine J_get jf_X3_27 dX3_init_40 hq rfl ?_
  refine J_iconst (v := 1) dX3_init_43 (by decide) ?_
  refine J_iadd dX3_init_44 ?_
  refine Jc_newax (atype := .int) (t := 34) (B := 121) (x := .inl (fun _ => 0)) jw_ac_int rfl (fun _ h => by cases h) (by decide) dX3_init_45 (jmost1_lo _) (jmost1_hi _) (by decide) (fun _ _ => rfl) (fun hN => jok_zI rfl (by decide) (by decide) (fun m h => by cases h <;> rfl) hN) (by decide) (by decide) hW (fun b45 V45 hn45 hb45 hk45 hW hx45 hA45 => ?_)
  have hz45 := he.1.none hn45
  have hkp := hkp.trans he.1 (jfa.new hk45)
  have he := he.trans (hx45.sub (jsub_of rfl))
  have hb33 := hb33.mono hx45.1
  have hq := hk45 _ _ hq
  have hA33 := hk45 _ _ hA33
  refine Jc_putF jf_X3_34 jt_X3_2 rfl (fun _ h => by cases h; rfl) dX3_init_47 hq rfl rfl (Nat.le_of_ble_eq_true rfl) (fun _ h => by cases h) hW (fun V47 hq hW hx47 hB47 => ?_)
  have hkp := hkp.trans he.1 (jfa.one hB47)
  have he := he.trans (hx47.sub (jsub_of rfl))
  have hb33 := hb33.mono hx47.1
  have hb45 := hb45.mono hx47.1
  have hA33 := hx47.2 _ _ hA33 (jnot_of rfl)
  have hA45 := hx47.2 _ _ hA45 (jnot_of rfl)
  refine J_aload_n dX3_init_50 rfl ?_
  refine J_aload_n dX3_init_51 rfl ?_
  refine J_get jf_X3_27 dX3_init_52 hq rfl ?_
  refine J_iconst (v := 1) dX3_init_55 (by decide) ?_
  refine J_iadd dX3_init_56 ?_
  refine Jc_newax (atype := .int) (t := 35) (B := 121) (x := .inl (fun _ => 0)) jw_ac_int rfl (fun _ h => by cases h) (by decide) dX3_init_57 (jmost1_lo _) (jmost1_hi _) (by decide) (fun _ _ => rfl) (fun hN => jok_zI rfl (by decide) (by decide) (fun m h => by cases h <;> rfl) hN) (by decide) (by decide) hW (fun b57 V57 hn57 hb57 hk57 hW hx57 hA57 => ?_)
  have hz57 := he.1.none hn57
  have hkp := hkp.trans he.1 (jfa.new hk57)
  have he := he.trans (hx57.sub (jsub_of rfl))
  have hb33 := hb33.mono hx57.1
  have hb45 := hb45.mono hx57.1
  have hq := hk57 _ _ hq
  have hA33 := hk57 _ _ hA33
  have hA45 := hk57 _ _ hA45
  refine Jc_putF jf_X3_37 jt_X3_3 rfl (fun _ h => by cases h; rfl) dX3_init_59 hq rfl rfl (Nat.le_of_ble_eq_true rfl) (fun _ h => by cases h) hW (fun V59 hq hW hx59 hB59 => ?_)
  have hkp := hkp.trans he.1 (jfa.one hB59)
  have he := he.trans (hx59.sub (jsub_of rfl))
  have hb33 := hb33.mono hx59.1
  have hb45 := hb45.mono hx59.1
  have hb57 := hb57.mono hx59.1
  have hA33 := hx59.2 _ _ hA33 (jnot_of rfl)
  have hA45 := hx59.2 _ _ hA45 (jnot_of rfl)
  have hA57 := hx59.2 _ _ hA57 (jnot_of rfl)
  refine J_aload_n dX3_init_62 rfl ?_
  refine J_aload_n dX3_init_63 rfl ?_
  refine J_get jf_X3_27 dX3_init_64 hq rfl ?_
  refine J_iconst (v := 1) dX3_init_67 (by decide) ?_
  refine J_iadd dX3_init_68 ?_
  refine Jc_newax (atype := .int) (t := 36) (B := 121) (x := .inl (fun _ => 0)) jw_ac_int rfl (fun _ h => by cases h) (by decide) dX3_init_69 (jmost1_lo _) (jmost1_hi _) (by decide) (fun _ _ => rfl) (fun hN => jok_zI rfl (by decide) (by decide) (fun m h => by cases h <;> rfl) hN) (by decide) (by decide) hW (fun b69 V69 hn69 hb69 hk69 hW hx69 hA69 => ?_)
  have hz69 := he.1.none hn69
  have hkp := hkp.trans he.1 (jfa.new hk69)
  have he := he.trans (hx69.sub (jsub_of rfl))
  have hb33 := hb33.mono hx69.1
  have hb45 := hb45.mono hx69.1
  have hb57 := hb57.mono hx69.1
  have hq := hk69 _ _ hq
  have hA33 := hk69 _ _ hA33
  have hA45 := hk69 _ _ hA45
  have hA57 := hk69 _ _ hA57
  refine Jc_putF jf_X3_40 jt_X3_4 rfl (fun _ h => by cases h; rfl) dX3_init_71 hq rfl rfl (Nat.le_of_ble_eq_true rfl) (fun _ h => by cases h) hW (fun V71 hq hW hx71 hB71 => ?_)
  have hkp := hkp.trans he.1 (jfa.one hB71)
  have he := he.trans (hx71.sub (jsub_of rfl))
  have hb33 := hb33.mono hx71.1
  have hb45 := hb45.mono hx71.1
  have hb57 := hb57.mono hx71.1
  have hb69 := hb69.mono hx71.1
  have hA33 := hx71.2 _ _ hA33 (jnot_of rfl)
  have hA45 := hx71.2 _ _ hA45 (jnot_of rfl)
  have hA57 := hx71.2 _ _ hA57 (jnot_of rfl)
  have hA69 := hx71.2 _ _ hA69 (jnot_of rfl)
  have hlm := jmost_lo x1
  have hhm := jmost_hi0 x1
  exact J_ret (r := none) dX3_init_74 ⟨rfl, rfl⟩ (⟨rfl, hW.fin hq (jokO_cons ⟨_, rfl, by first | decide | assumption | omega, by first | decide | assumption | omega⟩ (jokO_cons ⟨_, rfl, hb33⟩ (jokO_cons ⟨_, rfl, hb45⟩ (jokO_cons ⟨_, rfl, hb57⟩ (jokO_cons ⟨_, rfl, hb69⟩ (jokO_cons ⟨_, rfl, (j_rng _).1, (j_rng _).2⟩ (jokO_cons ⟨_, rfl, by first | decide | assumption | omega, by first | decide | assumption | omega⟩ (jokO_nil)))))))), he, ⟨_, hq, rfl⟩, jnw.mk hz33 hz45 hz57 hz69 ⟨_, hq, rfl⟩ ⟨_, hq, rfl⟩ ⟨_, hq, rfl⟩ ⟨_, hq, rfl⟩ ⟨_, hq, rfl⟩ ⟨_, hq, rfl⟩ ⟨_, hq, rfl⟩ hA33 hA45 hA57 hA69 hkp⟩)
set_option maxRecDepth 100000 in
set_option maxHeartbeats 8000000 in
theorem w_X0_isGround_z {tS : jTS} (d : Nat) (V0 : jH) (x0 : Int32) (hd : 0 ≤ d)   : jTot tS mX0_isGround d [.int x0] V0 0 0 (fun r V => (fun r _ => ∃ y : Int32, r = some (.int y) ∧ (0 ≤ y.toInt) ∧ (y.toInt ≤ 1) ∧ ((y.toInt = 1 ∧ 0 ≤ x0.toInt ∧ x0.toInt ≤ 3) ∨ (y.toInt = 0 ∧ ¬ (0 ≤ x0.toInt ∧ x0.toInt ≤ 3)))) r V ∧ V = V0) := by
  refine jTot.of_J [some (.int x0)] moX0_isGround (Nat.le_of_ble_eq_true rfl) rfl ?_
  have hrx0 := j_rng x0
  refine J_iload_n dX0_isGround_0 rfl ?_
  refine Jz_if_lt (tgt := 13) jEq.rf dX0_isGround_1 (by decide) (fun c1 => ?_) (fun c1 => ?_)
  · refine Jz_iconst 0 dX0_isGround_13 (by decide) (fun y13 he13 => ?_)
    exact J_ret (r := some (.int _)) dX0_isGround_14 ⟨rfl, _, rfl, (nar_b (by (try simp only [he13.eq, true_and, and_true]) <;> omega) (by (try simp only [he13.eq, true_and, and_true]) <;> omega))⟩ (⟨⟨_, rfl, (by (try simp only [he13.eq, true_and, and_true]) <;> omega), (by (try simp only [he13.eq, true_and, and_true]) <;> omega), (by (try simp only [he13.eq, true_and, and_true]) <;> omega)⟩, rfl⟩)
  · refine J_iload_n dX0_isGround_4 rfl ?_
    refine Jz_iconst 4 dX0_isGround_5 (by decide) (fun y5 he5 => ?_)
    refine Jz_icmp_ge (tgt := 13) jEq.rf he5 dX0_isGround_6 (by decide) (fun c6 => ?_) (fun c6 => ?_)
    · refine Jz_iconst 0 dX0_isGround_13 (by decide) (fun y13 he13 => ?_)
      exact J_ret (r := some (.int _)) dX0_isGround_14 ⟨rfl, _, rfl, (nar_b (by (try simp only [he13.eq, true_and, and_true]) <;> omega) (by (try simp only [he13.eq, true_and, and_true]) <;> omega))⟩ (⟨⟨_, rfl, (by (try simp only [he13.eq, true_and, and_true]) <;> omega), (by (try simp only [he13.eq, true_and, and_true]) <;> omega), (by (try simp only [he13.eq, true_and, and_true]) <;> omega)⟩, rfl⟩)
    · refine Jz_iconst 1 dX0_isGround_9 (by decide) (fun y9 he9 => ?_)
      refine J_goto (tgt := 14) dX0_isGround_10 (by decide) ?_
      exact J_ret (r := some (.int _)) dX0_isGround_14 ⟨rfl, _, rfl, (nar_b (by (try simp only [he9.eq, true_and, and_true]) <;> omega) (by (try simp only [he9.eq, true_and, and_true]) <;> omega))⟩ (⟨⟨_, rfl, (by (try simp only [he9.eq, true_and, and_true]) <;> omega), (by (try simp only [he9.eq, true_and, and_true]) <;> omega), (by (try simp only [he9.eq, true_and, and_true]) <;> omega)⟩, rfl⟩)
set_option maxRecDepth 100000 in
set_option maxHeartbeats 8000000 in
theorem w_X3_begin_z {tS : jTS} (d : Nat) (V0 : jH) (a0 : Nat) (x1 : Int32) (M : Int32) (hd : 0 ≤ d) (hW : WT V0) (ha0 : jis V0 (.inr 1) a0) (hf_M : jfI V0 a0 1 0 M) : jTot tS mX3_begin d [.ref a0, .int x1] V0 0 0 (fun r V => (jPost [.inr 1] V0 rV) r V ∧ jfp [a0] V0 V ∧ (∃ M2 : Int32, jfI V a0 1 0 M2 ∧ (M2.toInt = M.toInt)) ∧ (∃ g2 : Int32, jfI V a0 1 5 g2 ∧ (g2.toInt = x1.toInt)) ∧ (∃ n2 : Int32, jfI V a0 1 6 n2 ∧ (n2.toInt = 0))) := by
  refine jTot.of_J [some (.ref a0), some (.int x1)] moX3_begin (Nat.le_of_ble_eq_true rfl) rfl ?_
  have hrx1 := j_rng x1
  have he : jeff [.inr 1] V0 V0 := jeff.refl _ _
  have hfp : jfp [a0] V0 V0 := jfp.rf
  obtain ⟨fs_a0, hO_a0, hK_a0⟩ := WT_obj hW id ha0
  have hF_M := hf_M.get hO_a0
  have hrM : 0 ≤ M.toInt ∧ M.toInt ≤ 120 := jok_rngI hK_a0 rfl hF_M
  refine J_aload_n dX3_begin_0 rfl ?_
  refine J_iload_n dX3_begin_1 rfl ?_
  refine Jz_putI hO_a0 hW id rfl jf_X3_9 jt_X3_5 jEq.rf dX3_begin_2 (j_rng _).1 (j_rng _).2 (fun _ _ => ⟨rfl, rfl⟩) (fun V2 fs2 hW hx2 hO2 hS2 hT2 hB2 => ?_)
  have hK2 : jokO _ (jFs 1) fs2 := hW _ _ id hO2
  have hF2_0 := (hT2 0 (by decide)).trans hF_M
  have he := he.trans (hx2.sub (jsub_of rfl))
  have hfp := hfp.trans (jfp.one hB2 List.mem_cons_self)
  have ha0 := ha0.mono hx2.1
  refine J_aload_n dX3_begin_5 rfl ?_
  refine Jz_iconst 0 dX3_begin_6 (by decide) (fun y6 he6 => ?_)
  refine Jz_putI hO2 hW id rfl jf_X3_15 jt_X3_6 he6 dX3_begin_7 (by omega) (by omega) (fun _ _ => ⟨rfl, rfl⟩) (fun V7 fs7 hW hx7 hO7 hS7 hT7 hB7 => ?_)
  have hK7 : jokO _ (jFs 1) fs7 := hW _ _ id hO7
  have hF7_5 := (hT7 5 (by decide)).trans hS2
  have hF7_0 := (hT7 0 (by decide)).trans hF2_0
  have he := he.trans (hx7.sub (jsub_of rfl))
  have hfp := hfp.trans (jfp.one hB7 List.mem_cons_self)
  have ha0 := ha0.mono hx7.1
  exact J_ret (r := none) dX3_begin_10 ⟨rfl, rfl⟩ (⟨⟨hW, he, rfl⟩, hfp, ⟨_, ⟨_, hO7, hF7_0⟩, (by omega)⟩, ⟨_, ⟨_, hO7, hF7_5⟩, (by omega)⟩, ⟨_, ⟨_, hO7, hS7⟩, (by (try simp only [he6.eq, true_and, and_true]) <;> omega)⟩⟩)
theorem w_X6_walk_zgo {tS : jTS} (d : Nat) (V0 : jH) (a0 : Nat) (x1 : Int32) (k : Int32) (md : Nat) (f : Nat → Option Nat) (hd : 6 ≤ d) (hW : WT V0) (ha0 : jis V0 (.inr 4) a0) (hk1 : jfI V0 a0 4 1 k) (hmd : jfR V0 a0 4 0 md) (hA : V0 md = some (.inl (4, 16, .inr (.inr (.inr (.inr f)))))) (hk0 : 0 ≤ k.toInt) (hk : k.toInt < 16) (hx0 : 0 ≤ x1.toInt) (hx3 : x1.toInt ≤ 3) : jTot tS mX6_walk d [.ref a0, .int x1] V0 5 491 (fun r V => (jPost [.inr 1, .inl 4, .inr 4] V0 (fun r _ => ∃ y : Int32, r = some (.int y) ∧ y.toInt = k.toInt)) r V ∧ (∃ w : Int32, jfI V a0 4 1 w ∧ w.toInt = k.toInt + 1) ∧ ∃ q s xx yy zz : Nat, (V0 q = none ∧ V0 s = none ∧ V0 xx = none ∧ V0 yy = none ∧ V0 zz = none) ∧ jrw V q s xx yy zz 60 x1.toInt 0 (fun _ => 0) (fun _ => 0) (fun _ => 0) (fun _ => 0) ∧ V md = some (.inl (4, 16, .inr (.inr (.inr (.inr (va_up f k.toInt.toNat (some q))))))) ∧ ∀ (b : Nat) (e : jE), b ≠ a0 → b ≠ md → V0 b = some e → V b = some e) := by
  refine jTot.of_J [some (.ref a0), some (.int x1), none] moX6_walk (Nat.le_of_ble_eq_true rfl) rfl ?_
  obtain ⟨fs, hO, hF1⟩ := hk1
  have hF0 := hmd.get hO
  have hK : jokO V0 (jFs 4) fs := hW _ _ id hO
  refine J_iload_n dX6_walk_0 rfl ?_
  refine J_callS1 moX0_isGround jw_ml_X6_46 jw_st_X0_isGround dX6_walk_1 (w_X0_isGround_z (d - 1) _ x1 (by omega)) (by omega) (Nat.zero_le _) (Nat.zero_le _) (Nat.le_of_ble_eq_true rfl) (fun r1 V1 h1 => ?_)
  obtain ⟨⟨y1, rfl, hl1, hh1, hP1_0⟩, hE1⟩ := h1
  have hE1 := hE1.symm
  subst hE1
  refine Jz_if_ne (tgt := 10) jEq.rf dX6_walk_4 (by decide) (fun c4 => ?_) (fun c4 => (show False by omega).elim)
  refine J_aload_n dX6_walk_10 rfl ?_
  refine J_get jf_X6_15 dX6_walk_11 hO hF1 ?_
  refine Jz_if_lt (tgt := 29) jEq.rf dX6_walk_14 (by decide) (fun c14 => (show False by omega).elim) (fun c14 => ?_)
  refine J_aload_n dX6_walk_17 rfl ?_
  refine J_get jf_X6_15 dX6_walk_18 hO hF1 ?_
  refine J_aload_n dX6_walk_21 rfl ?_
  refine J_get jf_X6_11 dX6_walk_22 hO hF0 ?_
  refine J_alen dX6_walk_25 hA rfl rfl ?_
  have he25 : jEq (Int32.ofNat 16).toInt 16 := nI_toInt (by decide)
  generalize Int32.ofNat 16 = y25 at he25 ⊢
  refine Jz_icmp_lt (tgt := 32) jEq.rf he25 dX6_walk_26 (by decide) (fun c26 => ?_) (fun c26 => (show False by omega).elim)
  refine Jc_new jn_X6_9 dX6_walk_32 (by decide) (by decide) hW (fun q V2 hn2 hQ2 hk2 hW hx2 => ?_)
  refine J_dup dX6_walk_35 rfl ?_
  refine J_bipush (v := 60) dX6_walk_36 (by decide) ?_
  refine J_callI1 moX3_init rfl rfl jw_ml_X6_19 jw_im_X3_init dX6_walk_38 (w_X3_init (d - 1) _ (fun _ => False) _ _ (by omega) hW hQ2 (fun h => h)) (by omega) (by decide) (by decide) (Nat.le_of_ble_eq_true rfl) (fun r3 V3 h3 => ?_)
  obtain ⟨rfl, hW, hx3', hj3, s, xx, yy, zz, ⟨n1, n2, n3, n4⟩, hjw, hfa⟩ := h3
  rw [show (jmost 60).toInt.toNat = 60 by decide] at hjw
  obtain ⟨⟨q0, m0, e0⟩, m5, m6, r1, r2, r3, r4, a1, a2, a3, a4⟩ := hjw
  refine J_astore_n dX6_walk_41 rfl (by decide) ?_
  refine J_aload_n dX6_walk_42 rfl ?_
  refine J_iload_n dX6_walk_43 rfl ?_
  refine Jw_callV1 (q9 := (RX3, TX3, 7)) moX3_begin jw_ml_X6_52 jw_im_X3_begin jw_se_X3_begin hj3 rfl rfl dX6_walk_44 (w_X3_begin_z (d - 1) _ q x1 q0 (by omega) hW hj3 m0) (by omega) (Nat.zero_le _) (Nat.zero_le _) (Nat.le_of_ble_eq_true rfl) (fun r4' V4 h4 => ?_)
  obtain ⟨⟨hW, hx4, hr4⟩, hfp4, ⟨M2, b0, c0⟩, ⟨g2, b5, c5⟩, ⟨n2', b6, c6⟩⟩ := h4
  cases hr4
  have he := ((hx2.sub (jsub_of rfl : ∀ k ∈ ([] : List jKd), k ∈ ([.inr 1, .inl 4, .inr 4] : List jKd))).trans (hx3'.sub (jsub_of rfl))).trans (hx4.sub (jsub_of rfl))
  have hO4 := hx4.2 _ _ (hx3'.2 _ _ (hx2.2 _ _ hO (jnot_of rfl)) (jnot_of rfl)) (jnot_of rfl)
  have hA4 := hx4.2 _ _ (hx3'.2 _ _ (hx2.2 _ _ hA (jnot_of rfl)) (jnot_of rfl)) (jnot_of rfl)
  refine J_aload_n dX6_walk_47 rfl ?_
  refine J_get jf_X6_11 dX6_walk_48 hO4 hF0 ?_
  refine J_aload_n dX6_walk_51 rfl ?_
  refine J_get jf_X6_15 dX6_walk_52 hO4 hF1 ?_
  refine J_aload_n dX6_walk_55 rfl ?_
  refine Jw_aast hW id dX6_walk_56 rfl rfl hA4 rfl (hj3.mono hx4.1) (vp_in_n (by omega) (by omega)) (fun V5 hW hx5 hy5 hw5 => ?_)
  have hO5 := hx5.2 _ _ hO4 (jnot_of rfl)
  have hK5 : jokO V5 (jFs 4) fs := hW _ _ id hO5
  refine J_aload_n dX6_walk_57 rfl ?_
  refine J_dup dX6_walk_58 rfl ?_
  refine J_get jf_X6_15 dX6_walk_59 hO5 hF1 ?_
  refine Jz_iconst 1 dX6_walk_62 (by decide) (fun y6 he6 => ?_)
  refine Jz_iadd jEq.rf he6 dX6_walk_63 (by omega) (by omega) (fun y7 he7 => ?_)
  refine Jz_putI hO5 hW id rfl jf_X6_15 jt_X6_1 he7 dX6_walk_64 (by omega) (by omega) (fun _ _ => ⟨rfl, rfl⟩) (fun V6 fs6 hW hx6 hO6 hS6 hT6 hB6 => ?_)
  refine J_aload_n dX6_walk_67 rfl ?_
  refine J_get jf_X6_15 dX6_walk_68 hO6 hS6 ?_
  refine Jz_iconst 1 dX6_walk_71 (by decide) (fun y8 he8 => ?_)
  refine Jz_isub he7 he8 dX6_walk_72 (by omega) (by omega) (fun y9 he9 => ?_)
  have hq2 : V0 q = none := hn2
  have hnx : ∀ b : Nat, V2 b = none → V0 b = none := fun b hb => hx2.1.none hb
  refine J_ret (r := some (.int _)) dX6_walk_73 ⟨rfl, _, rfl, rfl⟩ ⟨⟨hW, (he.trans (hx5.sub (jsub_of rfl))).trans (hx6.sub (jsub_of rfl)), _, rfl, by rw [he9.eq]; omega⟩, ⟨y7, ⟨_, hO6, hS6⟩, he7.eq⟩, q, s, xx, yy, zz, ⟨hq2, hnx s n1, hnx xx n2, hnx yy n3, hnx zz n4⟩, ?_, ?_, ?_⟩
  · refine jrw.keep (jrw.keep ⟨⟨M2, b0, by rw [c0]; exact e0⟩, ⟨g2, b5, c5⟩, ⟨n2', b6, c6⟩, r1.mono hx4.1, r2.mono hx4.1, r3.mono hx4.1, r4.mono hx4.1, hx4.2 _ _ a1 (jnot_of rfl), hx4.2 _ _ a2 (jnot_of rfl), hx4.2 _ _ a3 (jnot_of rfl), hx4.2 _ _ a4 (jnot_of rfl)⟩ hx5 (jdis_of rfl)) hx6 (jdis_of rfl)
  · exact hx6.2 _ _ hw5 (jnot_of rfl)
  · intro b e hb1 hb2 h
    have hbq : b ∉ [q] := fun z => by rw [List.mem_singleton.mp z, hq2] at h; cases h
    rw [hB6 b hb1, hy5 b hb2, hfp4 b hbq]
    exact hfa b e hbq (hk2 b e h)
set_option maxRecDepth 100000 in
set_option maxHeartbeats 4000000 in
theorem w_X1_countForms {tS : jTS} : ∀ (K d : Nat) (V0 : jH) (a0 : Nat) (x1 : Int32) (x2 : Int32), 5 + K ≤ d → WT V0 → jis V0 (.inr 1) a0 → 0 ≤ x2.toInt → x2.toInt ≤ 7 → (8 - x2.toInt).toNat < K → jTot tS mX1_countForms d [.ref a0, .int x1, .int x2] V0 0 0 (fun r V => (jPost [.inr 1, .inl 6, .inl 34, .inl 35, .inl 36] V0 rN) r V ∧ jrk a0 V0 V) := by
  intro K
  induction K with
  | zero => intro d V0 a0 x1 x2 hd hW ha0 hl2 hh2 hrk; exact absurd hrk (Nat.not_lt_zero _)
  | succ K IH =>
  intro d V0 a0 x1 x2 hd hW ha0 hl2 hh2 hrk
  refine jTot.of_J [some (.ref a0), some (.int x1), some (.int x2), none, none] moX1_countForms (Nat.le_of_ble_eq_true rfl) rfl ?_
  have he : jeff [.inr 1, .inl 6, .inl 34, .inl 35, .inl 36] V0 V0 := jeff.refl _ _
  have hkp : jrk a0 V0 V0 := jrk.rf
  refine J_iload_n dX1_countForms_0 rfl ?_
  refine J_iload_n dX1_countForms_1 rfl ?_
  refine J_icmp_ge (tgt := 11) dX1_countForms_2 (by decide) (fun c2 => ?_) (fun c2 => ?_)
  · refine J_aload_n dX1_countForms_11 rfl ?_
    refine J_callS1 moX1_isOwnForm jw_ml_X1_61 jw_st_X1_isOwnForm dX1_countForms_12 (w_X1_isOwnForm (d - 1) _ _ (by omega) hW  ha0 ) (by omega) (Nat.zero_le _) (Nat.zero_le _) (Nat.le_of_ble_eq_true rfl) (fun r12 V12 h12 => ?_)
    obtain ⟨⟨y12, rfl, hl12, hh12⟩, hE12⟩ := h12
    have hE12 := hE12.symm
    subst hE12
    refine J_if_eq (tgt := 22) dX1_countForms_15 (by decide) (fun c15 => ?_) (fun c15 => ?_)
    · refine J_iconst (v := 0) dX1_countForms_22 (by decide) ?_
      exact J_ret (r := some (.int _)) dX1_countForms_23 ⟨rfl, _, rfl, rfl⟩ (⟨⟨hW, he, rN_of _⟩, hkp⟩)
    · refine J_iconst (v := 1) dX1_countForms_18 (by decide) ?_
      refine J_goto (tgt := 23) dX1_countForms_19 (by decide) ?_
      exact J_ret (r := some (.int _)) dX1_countForms_23 ⟨rfl, _, rfl, rfl⟩ (⟨⟨hW, he, rN_of _⟩, hkp⟩)
  · refine J_iload_n dX1_countForms_5 rfl ?_
    refine J_bipush (v := 7) dX1_countForms_6 (by decide) ?_
    refine J_icmp_lt (tgt := 24) dX1_countForms_8 (by decide) (fun c8 => ?_) (fun c8 => ?_)
    · refine J_iconst (v := 0) dX1_countForms_24 (by decide) ?_
      refine J_istore_n dX1_countForms_25 rfl (by decide) ?_
      refine J_iconst (v := 0) dX1_countForms_26 (by decide) ?_
      refine J_istore dX1_countForms_27 rfl (by decide) ?_
      have L29 : ∀ (N : Nat) (V : jH) (i3 : Int32) (i4 : Int32), WT V → jeff [.inr 1, .inl 6, .inl 34, .inl 35, .inl 36] V0 V → jrk a0 V0 V → jis V (.inr 1) a0 → (2147483648 - i4.toInt).toNat < N → J tS mX1_countForms d 29 [some (.ref a0), some (.int x1), some (.int x2), some (.int i3), some (.int i4)] [] V 0 0 (fun r V => (jPost [.inr 1, .inl 6, .inl 34, .inl 35, .inl 36] V0 rN) r V ∧ jrk a0 V0 V) := by
        intro N
        induction N with
        | zero => intro V i3 i4 hW he hkp ha0  hm; exact absurd hm (Nat.not_lt_zero _)
        | succ N ih =>
          intro V i3 i4 hW he hkp ha0  hm
          have ih29 := ih
          refine J_iload dX1_countForms_29 rfl ?_
          refine J_aload_n dX1_countForms_31 rfl ?_
          obtain ⟨fs32, hO32, hK32⟩ := WT_obj hW id ha0
          obtain ⟨w32, hF32, y32, rfl, hl32, hh32⟩ := hK32.2 5 (.inl ((-2147483648), 2147483647)) rfl
          dsimp only at hl32 hh32
          refine J_get jf_X1_23 dX1_countForms_32 hO32 hF32 ?_
          refine J_callS1 moX0_directions jw_ml_X1_65 jw_st_X0_directions dX1_countForms_35 (w_X0_directions (d - 1) _ _ (by omega)    ) (by omega) (Nat.zero_le _) (Nat.zero_le _) (Nat.le_of_ble_eq_true rfl) (fun r35 V35 h35 => ?_)
          obtain ⟨⟨y35, rfl, hl35, hh35⟩, hE35⟩ := h35
          have hE35 := hE35.symm
          subst hE35
          refine J_icmp_ge (tgt := 72) dX1_countForms_38 (by decide) (fun c38 => ?_) (fun c38 => ?_)
          · refine J_iload_n dX1_countForms_72 rfl ?_
            exact J_ret (r := some (.int _)) dX1_countForms_73 ⟨rfl, _, rfl, rfl⟩ (⟨⟨hW, he, rN_of _⟩, hkp⟩)
          · refine J_aload_n dX1_countForms_41 rfl ?_
            refine J_iload dX1_countForms_42 rfl ?_
            refine Jw_callV1 (q9 := (RX3, TX3, 7)) moX3_lay jw_ml_X1_68 jw_im_X3_lay jw_se_X3_lay ha0 rfl rfl dX1_countForms_44 (w_X3_lay_rk0 (d - 1) _ _ _ (by omega) hW ha0 ) (by omega) (Nat.zero_le _) (Nat.zero_le _) (Nat.le_of_ble_eq_true rfl) (fun r44 V44 h44 => ?_)
            obtain ⟨⟨hW, hx44, hr44⟩, hk44⟩ := h44
            have hkp := hkp.trans he.1 hk44
            have he := he.trans (hx44.sub (jsub_of rfl))
            have ha0 := ha0.mono hx44.1
            obtain ⟨y44, rfl, hl44, hh44⟩ := hr44
            · refine J_if_eq (tgt := 66) dX1_countForms_47 (by decide) (fun c47 => ?_) (fun c47 => ?_)
              · refine J_iinc dX1_countForms_66 rfl j_inc1 rfl (by decide) ?_
                refine J_goto (tgt := 29) dX1_countForms_69 (by decide) ?_
                refine J.mask [true, true, true, true, true] ?_
                exact ih29 _ _ _ hW he hkp ha0  (jdec_up (Int32.not_le.mp c38) (by assumption))
              · refine J_iload_n dX1_countForms_50 rfl ?_
                refine J_aload_n dX1_countForms_51 rfl ?_
                refine J_iload_n dX1_countForms_52 rfl ?_
                refine J_iload_n dX1_countForms_53 rfl ?_
                refine J_iconst (v := 1) dX1_countForms_54 (by decide) ?_
                refine J_iadd dX1_countForms_55 ?_
                refine J_callS3 moX1_countForms jw_ml_X1_72 jw_st_X1_countForms dX1_countForms_56 (IH (d - 1) _ _ _ _ (by omega) hW ha0 (by have h9 := j_add1 (x := x2) (by omega); omega) (by have h9 := j_add1 (x := x2) (by omega); have h8 := jlt.mp c8; have h7 : (7 : Int32).toInt = 7 := rfl; omega) (by have h9 := j_add1 (x := x2) (by omega); have h8 := jlt.mp c8; have h7 : (7 : Int32).toInt = 7 := rfl; omega)) (by omega) (Nat.zero_le _) (Nat.zero_le _) (Nat.le_of_ble_eq_true rfl) (fun r56 V56 h56 => ?_)
                obtain ⟨⟨hW, hx56, hr56⟩, hk56⟩ := h56
                have hkp := hkp.trans he.1 hk56
                have he := he.trans (hx56.sub (jsub_of rfl))
                have ha0 := ha0.mono hx56.1
                obtain ⟨y56, rfl, hl56, hh56⟩ := hr56
                refine J_iadd dX1_countForms_59 ?_
                refine J_istore_n dX1_countForms_60 rfl (by decide) ?_
                refine J_aload_n dX1_countForms_61 rfl ?_
                refine J_iconst (v := 1) dX1_countForms_62 (by decide) ?_
                refine Jw_callV1 (q9 := (RX3, TX3, 7)) moX3_drop jw_ml_X1_76 jw_im_X3_drop jw_se_X3_drop ha0 rfl rfl dX1_countForms_63 (w_X3_drop_rk0 (d - 1) _ _ _ (by omega) hW ha0 (by decide)) (by omega) (Nat.zero_le _) (Nat.zero_le _) (Nat.le_of_ble_eq_true rfl) (fun r63 V63 h63 => ?_)
                obtain ⟨⟨hW, hx63, hr63⟩, hk63⟩ := h63
                have hkp := hkp.trans he.1 hk63
                have he := he.trans (hx63.sub (jsub_of rfl))
                have ha0 := ha0.mono hx63.1
                cases hr63
                · refine J_iinc dX1_countForms_66 rfl j_inc1 rfl (by decide) ?_
                  refine J_goto (tgt := 29) dX1_countForms_69 (by decide) ?_
                  refine J.mask [true, true, true, true, true] ?_
                  exact ih29 _ _ _ hW he hkp ha0  (jdec_up (Int32.not_le.mp c38) (by assumption))
      refine J.mask [true, true, true, true, true] ?_
      exact L29 _ _ _ _ hW he hkp ha0  (Nat.lt_succ_self _)
    · refine J_aload_n dX1_countForms_11 rfl ?_
      refine J_callS1 moX1_isOwnForm jw_ml_X1_61 jw_st_X1_isOwnForm dX1_countForms_12 (w_X1_isOwnForm (d - 1) _ _ (by omega) hW  ha0 ) (by omega) (Nat.zero_le _) (Nat.zero_le _) (Nat.le_of_ble_eq_true rfl) (fun r12 V12 h12 => ?_)
      obtain ⟨⟨y12, rfl, hl12, hh12⟩, hE12⟩ := h12
      have hE12 := hE12.symm
      subst hE12
      refine J_if_eq (tgt := 22) dX1_countForms_15 (by decide) (fun c15 => ?_) (fun c15 => ?_)
      · refine J_iconst (v := 0) dX1_countForms_22 (by decide) ?_
        exact J_ret (r := some (.int _)) dX1_countForms_23 ⟨rfl, _, rfl, rfl⟩ (⟨⟨hW, he, rN_of _⟩, hkp⟩)
      · refine J_iconst (v := 1) dX1_countForms_18 (by decide) ?_
        refine J_goto (tgt := 23) dX1_countForms_19 (by decide) ?_
        exact J_ret (r := some (.int _)) dX1_countForms_23 ⟨rfl, _, rfl, rfl⟩ (⟨⟨hW, he, rN_of _⟩, hkp⟩)
set_option maxRecDepth 100000 in
set_option maxHeartbeats 4000000 in
theorem w_X5_markWalks {tS : jTS} : ∀ (K d : Nat) (V0 : jH) (a0 : Nat) (a1 : Nat) (x2 : Int32) (x3 : Int32), 4 + K ≤ d → WT V0 → jis V0 (.inr 3) a0 → jis V0 (.inr 1) a1 → 0 ≤ x2.toInt → x2.toInt ≤ 6 → (7 - x2.toInt).toNat < K → jTot tS mX5_markWalks d [.ref a0, .ref a1, .int x2, .int x3] V0 0 0 (fun r V => (jPost [.inr 1, .inl 6, .inl 34, .inl 35, .inl 36, .inl 3] V0 rV) r V ∧ jrk a1 V0 V) := by
  intro K
  induction K with
  | zero => intro d V0 a0 a1 x2 x3 hd hW ha0 ha1 hl2 hh2 hrk; exact absurd hrk (Nat.not_lt_zero _)
  | succ K IH =>
  intro d V0 a0 a1 x2 x3 hd hW ha0 ha1 hl2 hh2 hrk
  refine jTot.of_J [some (.ref a0), some (.ref a1), some (.int x2), some (.int x3), none] moX5_markWalks (Nat.le_of_ble_eq_true rfl) rfl ?_
  have he : jeff [.inr 1, .inl 6, .inl 34, .inl 35, .inl 36, .inl 3] V0 V0 := jeff.refl _ _
  have hkp : jrk a1 V0 V0 := jrk.rf
  refine J_iload_n dX5_markWalks_0 rfl ?_
  refine J_aload_n dX5_markWalks_1 rfl ?_
  obtain ⟨fs2, hO2, hK2⟩ := WT_obj hW id ha0
  obtain ⟨w2, hF2, y2, rfl, hl2, hh2⟩ := hK2.2 1 (.inl (0, 6)) rfl
  dsimp only at hl2 hh2
  refine J_get jf_X5_31 dX5_markWalks_2 hO2 hF2 ?_
  refine J_icmp_ge (tgt := 14) dX5_markWalks_5 (by decide) (fun c5 => ?_) (fun c5 => ?_)
  · refine J_iload_n dX5_markWalks_14 rfl ?_
    refine J_if_lt (tgt := 34) dX5_markWalks_15 (by decide) (fun c15 => ?_) (fun c15 => ?_)
    · exact J_ret (r := none) dX5_markWalks_34 ⟨rfl, rfl⟩ (⟨⟨hW, he, rfl⟩, hkp⟩)
    · refine J_iload_n dX5_markWalks_18 rfl ?_
      refine J_aload_n dX5_markWalks_19 rfl ?_
      obtain ⟨w20, hF20, b20, rfl, hb20⟩ := hK2.2 3 (.inr (some (.inl 3))) rfl
      refine J_get jf_X5_43 dX5_markWalks_20 hO2 hF20 ?_
      obtain ⟨n23, f23, hA23, hN23, hM23, hv23⟩ := WT_arrI (r := (-128, 127)) hW id rfl hb20
      refine J_alen (v := Int32.ofNat n23) dX5_markWalks_23 hA23 rfl rfl ?_
      refine J_icmp_ge (tgt := 34) dX5_markWalks_24 (by decide) (fun c24 => ?_) (fun c24 => ?_)
      · exact J_ret (r := none) dX5_markWalks_34 ⟨rfl, rfl⟩ (⟨⟨hW, he, rfl⟩, hkp⟩)
      · refine J_aload_n dX5_markWalks_27 rfl ?_
        refine J_get jf_X5_43 dX5_markWalks_28 hO2 hF20 ?_
        refine J_iload_n dX5_markWalks_31 rfl ?_
        refine J_iconst (v := 1) dX5_markWalks_32 (by decide) ?_
        refine Jw_bast hW id dX5_markWalks_33 hA23 rfl rfl (by first | exact vp_in_g (by assumption) (by assumption) (by assumption) | exact vp_in_g1 (by assumption) (by assumption) (by assumption) | exact vp_in_g2 (by assumption) (by assumption) (by assumption) | exact vp_in_g3 (by assumption) (by assumption) (by assumption) | exact vp_in_n (by omega) (by omega)) (by first | decide | assumption | omega) (by first | decide | assumption | omega) rfl (fun V33 hW hx33 hy33 => ?_)
        have hkp := hkp.trans he.1 (jrk.of hx33 (jdis_of rfl))
        have he := he.trans (hx33.sub (jsub_of rfl))
        have ha0 := ha0.mono hx33.1
        have ha1 := ha1.mono hx33.1
        have hb20 := hb20.mono hx33.1
        have hO2 := hx33.2 _ _ hO2 (jnot_of rfl)
        have hK2 := hK2.mono hx33.1
        exact J_ret (r := none) dX5_markWalks_34 ⟨rfl, rfl⟩ (⟨⟨hW, he, rfl⟩, hkp⟩)
  · refine J_iload_n dX5_markWalks_8 rfl ?_
    refine J_bipush (v := 6) dX5_markWalks_9 (by decide) ?_
    refine J_icmp_lt (tgt := 35) dX5_markWalks_11 (by decide) (fun c11 => ?_) (fun c11 => ?_)
    · refine J_iconst (v := 0) dX5_markWalks_35 (by decide) ?_
      refine J_istore dX5_markWalks_36 rfl (by decide) ?_
      have L38 : ∀ (N : Nat) (V : jH) (i4 : Int32), WT V → jeff [.inr 1, .inl 6, .inl 34, .inl 35, .inl 36, .inl 3] V0 V → jrk a1 V0 V → jis V (.inr 3) a0 → jis V (.inr 1) a1 → (2147483648 - i4.toInt).toNat < N → J tS mX5_markWalks d 38 [some (.ref a0), some (.ref a1), some (.int x2), some (.int x3), some (.int i4)] [] V 0 0 (fun r V => (jPost [.inr 1, .inl 6, .inl 34, .inl 35, .inl 36, .inl 3] V0 rV) r V ∧ jrk a1 V0 V) := by
        intro N
        induction N with
        | zero => intro V i4 hW he hkp ha0 ha1  hm; exact absurd hm (Nat.not_lt_zero _)
        | succ N ih =>
          intro V i4 hW he hkp ha0 ha1  hm
          have ih38 := ih
          refine J_iload dX5_markWalks_38 rfl ?_
          refine J_aload_n dX5_markWalks_40 rfl ?_
          obtain ⟨fs41, hO41, hK41⟩ := WT_obj hW id ha0
          obtain ⟨w41, hF41, y41, rfl, hl41, hh41⟩ := hK41.2 2 (.inl ((-2147483648), 2147483647)) rfl
          dsimp only at hl41 hh41
          refine J_get jf_X5_40 dX5_markWalks_41 hO41 hF41 ?_
          refine J_icmp_ge (tgt := 84) dX5_markWalks_44 (by decide) (fun c44 => ?_) (fun c44 => ?_)
          · exact J_ret (r := none) dX5_markWalks_84 ⟨rfl, rfl⟩ (⟨⟨hW, he, rfl⟩, hkp⟩)
          · refine J_aload_n dX5_markWalks_47 rfl ?_
            refine J_iload dX5_markWalks_48 rfl ?_
            refine Jw_callV1 (q9 := (RX3, TX3, 7)) moX3_lay jw_ml_X5_72 jw_im_X3_lay jw_se_X3_lay ha1 rfl rfl dX5_markWalks_50 (w_X3_lay_rk0 (d - 1) _ _ _ (by omega) hW ha1 ) (by omega) (Nat.zero_le _) (Nat.zero_le _) (Nat.le_of_ble_eq_true rfl) (fun r50 V50 h50 => ?_)
            obtain ⟨⟨hW, hx50, hr50⟩, hk50⟩ := h50
            have hkp := hkp.trans he.1 hk50
            have he := he.trans (hx50.sub (jsub_of rfl))
            have ha0 := ha0.mono hx50.1
            have ha1 := ha1.mono hx50.1
            have hO41 := hx50.2 _ _ hO41 (jnot_of rfl)
            have hK41 := hK41.mono hx50.1
            obtain ⟨y50, rfl, hl50, hh50⟩ := hr50
            · refine J_if_eq (tgt := 78) dX5_markWalks_53 (by decide) (fun c53 => ?_) (fun c53 => ?_)
              · refine J_iinc dX5_markWalks_78 rfl j_inc1 rfl (by decide) ?_
                refine J_goto (tgt := 38) dX5_markWalks_81 (by decide) ?_
                refine J.mask [true, true, true, true, true] ?_
                exact ih38 _ _ hW he hkp ha0 ha1  (jdec_up (Int32.not_le.mp c44) (by assumption))
              · refine J_aload_n dX5_markWalks_56 rfl ?_
                refine J_aload_n dX5_markWalks_57 rfl ?_
                refine J_iload_n dX5_markWalks_58 rfl ?_
                refine J_iconst (v := 1) dX5_markWalks_59 (by decide) ?_
                refine J_iadd dX5_markWalks_60 ?_
                refine J_iload_n dX5_markWalks_61 rfl ?_
                refine J_aload_n dX5_markWalks_62 rfl ?_
                refine J_get jf_X5_40 dX5_markWalks_63 hO41 hF41 ?_
                refine J_imul dX5_markWalks_66 ?_
                refine J_iload dX5_markWalks_67 rfl ?_
                refine J_iadd dX5_markWalks_69 ?_
                refine J_callS4 moX5_markWalks jw_ml_X5_56 jw_st_X5_markWalks dX5_markWalks_70 (IH (d - 1) _ _ _ _ _ (by omega) hW ha0 ha1 (by have h9 := j_add1 (x := x2) (by omega); omega) (by have h9 := j_add1 (x := x2) (by omega); have h8 := jlt.mp c11; have h7 : (6 : Int32).toInt = 6 := rfl; omega) (by have h9 := j_add1 (x := x2) (by omega); have h8 := jlt.mp c11; have h7 : (6 : Int32).toInt = 6 := rfl; omega)) (by omega) (Nat.zero_le _) (Nat.zero_le _) (Nat.le_of_ble_eq_true rfl) (fun r70 V70 h70 => ?_)
                obtain ⟨⟨hW, hx70, hr70⟩, hk70⟩ := h70
                have hkp := hkp.trans he.1 hk70
                have he := he.trans (hx70.sub (jsub_of rfl))
                have ha0 := ha0.mono hx70.1
                have ha1 := ha1.mono hx70.1
                have hO41 := hx70.2 _ _ hO41 (jnot_of rfl)
                have hK41 := hK41.mono hx70.1
                cases hr70
                refine J_aload_n dX5_markWalks_73 rfl ?_
                refine J_iconst (v := 1) dX5_markWalks_74 (by decide) ?_
                refine Jw_callV1 (q9 := (RX3, TX3, 7)) moX3_drop jw_ml_X5_76 jw_im_X3_drop jw_se_X3_drop ha1 rfl rfl dX5_markWalks_75 (w_X3_drop_rk0 (d - 1) _ _ _ (by omega) hW ha1 (by decide)) (by omega) (Nat.zero_le _) (Nat.zero_le _) (Nat.le_of_ble_eq_true rfl) (fun r75 V75 h75 => ?_)
                obtain ⟨⟨hW, hx75, hr75⟩, hk75⟩ := h75
                have hkp := hkp.trans he.1 hk75
                have he := he.trans (hx75.sub (jsub_of rfl))
                have ha0 := ha0.mono hx75.1
                have ha1 := ha1.mono hx75.1
                have hO41 := hx75.2 _ _ hO41 (jnot_of rfl)
                have hK41 := hK41.mono hx75.1
                cases hr75
                · refine J_iinc dX5_markWalks_78 rfl j_inc1 rfl (by decide) ?_
                  refine J_goto (tgt := 38) dX5_markWalks_81 (by decide) ?_
                  refine J.mask [true, true, true, true, true] ?_
                  exact ih38 _ _ hW he hkp ha0 ha1  (jdec_up (Int32.not_le.mp c44) (by assumption))
      refine J.mask [true, true, true, true, true] ?_
      exact L38 _ _ _ hW he hkp ha0 ha1  (Nat.lt_succ_self _)
    · refine J_iload_n dX5_markWalks_14 rfl ?_
      refine J_if_lt (tgt := 34) dX5_markWalks_15 (by decide) (fun c15 => ?_) (fun c15 => ?_)
      · exact J_ret (r := none) dX5_markWalks_34 ⟨rfl, rfl⟩ (⟨⟨hW, he, rfl⟩, hkp⟩)
      · refine J_iload_n dX5_markWalks_18 rfl ?_
        refine J_aload_n dX5_markWalks_19 rfl ?_
        obtain ⟨w20, hF20, b20, rfl, hb20⟩ := hK2.2 3 (.inr (some (.inl 3))) rfl
        refine J_get jf_X5_43 dX5_markWalks_20 hO2 hF20 ?_
        obtain ⟨n23, f23, hA23, hN23, hM23, hv23⟩ := WT_arrI (r := (-128, 127)) hW id rfl hb20
        refine J_alen (v := Int32.ofNat n23) dX5_markWalks_23 hA23 rfl rfl ?_
        refine J_icmp_ge (tgt := 34) dX5_markWalks_24 (by decide) (fun c24 => ?_) (fun c24 => ?_)
        · exact J_ret (r := none) dX5_markWalks_34 ⟨rfl, rfl⟩ (⟨⟨hW, he, rfl⟩, hkp⟩)
        · refine J_aload_n dX5_markWalks_27 rfl ?_
          refine J_get jf_X5_43 dX5_markWalks_28 hO2 hF20 ?_
          refine J_iload_n dX5_markWalks_31 rfl ?_
          refine J_iconst (v := 1) dX5_markWalks_32 (by decide) ?_
          refine Jw_bast hW id dX5_markWalks_33 hA23 rfl rfl (by first | exact vp_in_g (by assumption) (by assumption) (by assumption) | exact vp_in_g1 (by assumption) (by assumption) (by assumption) | exact vp_in_g2 (by assumption) (by assumption) (by assumption) | exact vp_in_g3 (by assumption) (by assumption) (by assumption) | exact vp_in_n (by omega) (by omega)) (by first | decide | assumption | omega) (by first | decide | assumption | omega) rfl (fun V33 hW hx33 hy33 => ?_)
          have hkp := hkp.trans he.1 (jrk.of hx33 (jdis_of rfl))
          have he := he.trans (hx33.sub (jsub_of rfl))
          have ha0 := ha0.mono hx33.1
          have ha1 := ha1.mono hx33.1
          have hb20 := hb20.mono hx33.1
          have hO2 := hx33.2 _ _ hO2 (jnot_of rfl)
          have hK2 := hK2.mono hx33.1
          exact J_ret (r := none) dX5_markWalks_34 ⟨rfl, rfl⟩ (⟨⟨hW, he, rfl⟩, hkp⟩)
set_option maxRecDepth 100000 in
set_option maxHeartbeats 4000000 in
theorem w_X5_countReached {tS : jTS} (d : Nat) (V0 : jH) (a0 : Nat) (a1 : Nat)  (hd : 13 ≤ d) (hW : WT V0) (ha0 : jis V0 (.inr 3) a0) (ha1 : jis V0 (.inr 1) a1)  : jTot tS mX5_countReached d [.ref a0, .ref a1] V0 0 0 (fun r V => (jPost [.inr 3, .inr 1, .inl 6, .inl 34, .inl 35, .inl 36, .inl 3, .inl 10, .inl 11] V0 (rI 0 2147483647)) r V ∧ jrk a1 V0 V) := by
  refine jTot.of_J [some (.ref a0), some (.ref a1), none, none, none] moX5_countReached (Nat.le_of_ble_eq_true rfl) rfl ?_
  have he : jeff [.inr 3, .inr 1, .inl 6, .inl 34, .inl 35, .inl 36, .inl 3, .inl 10, .inl 11] V0 V0 := jeff.refl _ _
  have hkp : jrk a1 V0 V0 := jrk.rf
  refine J_aload_n dX5_countReached_0 rfl ?_
  refine J_aload_n dX5_countReached_1 rfl ?_
  obtain ⟨fs2, hO2, hK2⟩ := WT_obj hW id ha0
  obtain ⟨w2, hF2, y2, rfl, hl2, hh2⟩ := hK2.2 0 (.inl ((-2147483648), 2147483647)) rfl
  dsimp only at hl2 hh2
  refine J_get jf_X5_19 dX5_countReached_2 hO2 hF2 ?_
  refine Jw_callV1 (q9 := (RX3, TX3, 7)) moX3_begin jw_ml_X5_50 jw_im_X3_begin jw_se_X3_begin ha1 rfl rfl dX5_countReached_5 (w_X3_begin_rk0 (d - 1) _ _ _ (by omega) hW ha1 ) (by omega) (Nat.zero_le _) (Nat.zero_le _) (Nat.le_of_ble_eq_true rfl) (fun r5 V5 h5 => ?_)
  obtain ⟨⟨hW, hx5, hr5⟩, hk5⟩ := h5
  have hkp := hkp.trans he.1 hk5
  have he := he.trans (hx5.sub (jsub_of rfl))
  have ha0 := ha0.mono hx5.1
  have ha1 := ha1.mono hx5.1
  have hO2 := hx5.2 _ _ hO2 (jnot_of rfl)
  have hK2 := hK2.mono hx5.1
  cases hr5
  · refine J_aload_n dX5_countReached_8 rfl ?_
    refine J_aload_n dX5_countReached_9 rfl ?_
    refine J_iconst (v := 0) dX5_countReached_10 (by decide) ?_
    refine J_iconst (v := 0) dX5_countReached_11 (by decide) ?_
    refine J_callS4 moX5_markWalks jw_ml_X5_56 jw_st_X5_markWalks dX5_countReached_12 (w_X5_markWalks 8 (d - 1) _ _ _ _ _ (by omega) hW ha0 ha1 (by first | decide | assumption | omega) (by first | decide | assumption | omega) (by decide)) (by omega) (Nat.zero_le _) (Nat.zero_le _) (Nat.le_of_ble_eq_true rfl) (fun r12 V12 h12 => ?_)
    obtain ⟨⟨hW, hx12, hr12⟩, hk12⟩ := h12
    have hkp := hkp.trans he.1 hk12
    have he := he.trans (hx12.sub (jsub_of rfl))
    have ha0 := ha0.mono hx12.1
    have ha1 := ha1.mono hx12.1
    have hO2 := hx12.2 _ _ hO2 (jnot_of rfl)
    have hK2 := hK2.mono hx12.1
    cases hr12
    refine J_aload_n dX5_countReached_15 rfl ?_
    refine J_iconst (v := 0) dX5_countReached_16 (by decide) ?_
    refine Jw_callV1 (q9 := (RX5, TX5, 7)) moX5_arriveAt jw_ml_X5_60 jw_im_X5_arriveAt jw_se_X5_arriveAt ha0 rfl rfl dX5_countReached_17 (w_X5_arriveAt (d - 1) _ _ _ (by omega) hW  ha0 ) (by omega) (Nat.zero_le _) (Nat.zero_le _) (Nat.le_of_ble_eq_true rfl) (fun r17 V17 h17 => ?_)
    obtain ⟨hW, hx17, hr17⟩ := h17
    have hkp := hkp.trans he.1 (jrk.of hx17 (jdis_of rfl))
    have he := he.trans (hx17.sub (jsub_of rfl))
    have ha0 := ha0.mono hx17.1
    have ha1 := ha1.mono hx17.1
    cases hr17
    refine J_iconst (v := 0) dX5_countReached_20 (by decide) ?_
    refine J_istore_n dX5_countReached_21 rfl (by decide) ?_
    have L22 : ∀ (N : Nat) (V : jH) (i2 : Int32), WT V → jeff [.inr 3, .inr 1, .inl 6, .inl 34, .inl 35, .inl 36, .inl 3, .inl 10, .inl 11] V0 V → jrk a1 V0 V → jis V (.inr 3) a0 → jis V (.inr 1) a1 → (0 ≤ i2.toInt) → (2147483648 - i2.toInt).toNat < N → J tS mX5_countReached d 22 [some (.ref a0), some (.ref a1), some (.int i2), none, none] [] V 0 0 (fun r V => (jPost [.inr 3, .inr 1, .inl 6, .inl 34, .inl 35, .inl 36, .inl 3, .inl 10, .inl 11] V0 (rI 0 2147483647)) r V ∧ jrk a1 V0 V) := by
      intro N
      induction N with
      | zero => intro V i2 hW he hkp ha0 ha1 hi2 hm; exact absurd hm (Nat.not_lt_zero _)
      | succ N ih =>
        intro V i2 hW he hkp ha0 ha1 hi2 hm
        have ih22 := ih
        refine J_iload_n dX5_countReached_22 rfl ?_
        refine J_aload_n dX5_countReached_23 rfl ?_
        obtain ⟨fs24, hO24, hK24⟩ := WT_obj hW id ha0
        obtain ⟨w24, hF24, y24, rfl, hl24, hh24⟩ := hK24.2 6 (.inl (0, 2147483647)) rfl
        dsimp only at hl24 hh24
        refine J_get jf_X5_15 dX5_countReached_24 hO24 hF24 ?_
        refine J_icmp_ge (tgt := 103) dX5_countReached_27 (by decide) (fun c27 => ?_) (fun c27 => ?_)
        · refine J_aload_n dX5_countReached_103 rfl ?_
          refine J_get jf_X5_15 dX5_countReached_104 hO24 hF24 ?_
          exact J_ret (r := some (.int _)) dX5_countReached_107 ⟨rfl, _, rfl, rfl⟩ (⟨⟨hW, he, _, rfl, by first | decide | assumption | omega, by first | decide | assumption | omega⟩, hkp⟩)
        · refine J_iload_n dX5_countReached_30 rfl ?_
          refine J_aload_n dX5_countReached_31 rfl ?_
          obtain ⟨w32, hF32, b32, rfl, hb32⟩ := hK24.2 4 (.inr (some (.inl 10))) rfl
          refine J_get jf_X5_47 dX5_countReached_32 hO24 hF32 ?_
          obtain ⟨n35, f35, hA35, hN35, hM35, hv35⟩ := WT_arrI (r := (-2147483648, 2147483647)) hW id rfl hb32
          refine J_alen (v := Int32.ofNat n35) dX5_countReached_35 hA35 rfl rfl ?_
          refine J_icmp_ge (tgt := 103) dX5_countReached_36 (by decide) (fun c36 => ?_) (fun c36 => ?_)
          · refine J_aload_n dX5_countReached_103 rfl ?_
            refine J_get jf_X5_15 dX5_countReached_104 hO24 hF24 ?_
            exact J_ret (r := some (.int _)) dX5_countReached_107 ⟨rfl, _, rfl, rfl⟩ (⟨⟨hW, he, _, rfl, by first | decide | assumption | omega, by first | decide | assumption | omega⟩, hkp⟩)
          · refine J_aload_n dX5_countReached_39 rfl ?_
            refine J_aload_n dX5_countReached_40 rfl ?_
            refine J_get jf_X5_47 dX5_countReached_41 hO24 hF32 ?_
            refine J_iload_n dX5_countReached_44 rfl ?_
            refine Jw_iald dX5_countReached_45 hA35 rfl hv35 (by first | exact vp_in_g (by assumption) (by assumption) (by assumption) | exact vp_in_g1 (by assumption) (by assumption) (by assumption) | exact vp_in_g2 (by assumption) (by assumption) (by assumption) | exact vp_in_g3 (by assumption) (by assumption) (by assumption) | exact vp_in_n (by omega) (by omega)) (fun y45 hl45 hh45 => ?_)
            refine Jw_callV1 (q9 := (RX5, TX5, 7)) moX5_takeApart jw_ml_X5_63 jw_im_X5_takeApart jw_se_X5_takeApart ha0 rfl rfl dX5_countReached_46 (w_X5_takeApart (d - 1) _ _ _ (by omega) hW  ha0 ) (by omega) (Nat.zero_le _) (Nat.zero_le _) (Nat.le_of_ble_eq_true rfl) (fun r46 V46 h46 => ?_)
            obtain ⟨hW, hx46, hr46⟩ := h46
            have hkp := hkp.trans he.1 (jrk.of hx46 (jdis_of rfl))
            have he := he.trans (hx46.sub (jsub_of rfl))
            have ha0 := ha0.mono hx46.1
            have ha1 := ha1.mono hx46.1
            have hb32 := hb32.mono hx46.1
            have hO24 := hx46.2 _ _ hO24 (jnot_of rfl)
            have hK24 := hK24.mono hx46.1
            have hA35 := hx46.2 _ _ hA35 (jnot_of rfl)
            cases hr46
            refine J_iconst (v := 0) dX5_countReached_49 (by decide) ?_
            refine J_istore_n dX5_countReached_50 rfl (by decide) ?_
            have L51 : ∀ (N : Nat) (V : jH) (i3 : Int32), WT V → jeff [.inr 3, .inr 1, .inl 6, .inl 34, .inl 35, .inl 36, .inl 3, .inl 10, .inl 11] V0 V → jrk a1 V0 V → jis V (.inr 3) a0 → jis V (.inr 1) a1 → (2147483648 - i3.toInt).toNat < N → J tS mX5_countReached d 51 [some (.ref a0), some (.ref a1), some (.int i2), some (.int i3), none] [] V 0 0 (fun r V => (jPost [.inr 3, .inr 1, .inl 6, .inl 34, .inl 35, .inl 36, .inl 3, .inl 10, .inl 11] V0 (rI 0 2147483647)) r V ∧ jrk a1 V0 V) := by
              intro N
              induction N with
              | zero => intro V i3 hW he hkp ha0 ha1  hm; exact absurd hm (Nat.not_lt_zero _)
              | succ N ih =>
                intro V i3 hW he hkp ha0 ha1  hm
                have ih51 := ih
                refine J_iload_n dX5_countReached_51 rfl ?_
                refine J_aload_n dX5_countReached_52 rfl ?_
                obtain ⟨fs53, hO53, hK53⟩ := WT_obj hW id ha0
                obtain ⟨w53, hF53, y53, rfl, hl53, hh53⟩ := hK53.2 1 (.inl (0, 6)) rfl
                dsimp only at hl53 hh53
                refine J_get jf_X5_31 dX5_countReached_53 hO53 hF53 ?_
                refine J_icmp_ge (tgt := 97) dX5_countReached_56 (by decide) (fun c56 => ?_) (fun c56 => ?_)
                · refine J_iinc dX5_countReached_97 rfl j_inc1 rfl (by decide) ?_
                  refine J_goto (tgt := 22) dX5_countReached_100 (by decide) ?_
                  refine J.mask [true, true, true, false, false] ?_
                  exact ih22 _ _ hW he hkp ha0 ha1 (by have h8 := j_rng i2; have h9 := jm_up (Int32.not_le.mp c27); omega) (jdec_up (Int32.not_le.mp c27) (by assumption))
                · refine J_iconst (v := 0) dX5_countReached_59 (by decide) ?_
                  refine J_istore dX5_countReached_60 rfl (by decide) ?_
                  have L62 : ∀ (N : Nat) (V : jH) (i4 : Int32), WT V → jeff [.inr 3, .inr 1, .inl 6, .inl 34, .inl 35, .inl 36, .inl 3, .inl 10, .inl 11] V0 V → jrk a1 V0 V → jis V (.inr 3) a0 → jis V (.inr 1) a1 → (2147483648 - i4.toInt).toNat < N → J tS mX5_countReached d 62 [some (.ref a0), some (.ref a1), some (.int i2), some (.int i3), some (.int i4)] [] V 0 0 (fun r V => (jPost [.inr 3, .inr 1, .inl 6, .inl 34, .inl 35, .inl 36, .inl 3, .inl 10, .inl 11] V0 (rI 0 2147483647)) r V ∧ jrk a1 V0 V) := by
                    intro N
                    induction N with
                    | zero => intro V i4 hW he hkp ha0 ha1  hm; exact absurd hm (Nat.not_lt_zero _)
                    | succ N ih =>
                      intro V i4 hW he hkp ha0 ha1  hm
                      have ih62 := ih
                      refine J_iload dX5_countReached_62 rfl ?_
                      refine J_aload_n dX5_countReached_64 rfl ?_
                      obtain ⟨fs65, hO65, hK65⟩ := WT_obj hW id ha0
                      obtain ⟨w65, hF65, y65, rfl, hl65, hh65⟩ := hK65.2 0 (.inl ((-2147483648), 2147483647)) rfl
                      dsimp only at hl65 hh65
                      refine J_get jf_X5_19 dX5_countReached_65 hO65 hF65 ?_
                      refine J_callS1 moX0_turns jw_ml_X5_66 jw_st_X0_turns dX5_countReached_68 (w_X0_turns (d - 1) _ _ (by omega)    ) (by omega) (Nat.zero_le _) (Nat.zero_le _) (Nat.le_of_ble_eq_true rfl) (fun r68 V68 h68 => ?_)
                      obtain ⟨⟨y68, rfl, hl68, hh68⟩, hE68⟩ := h68
                      have hE68 := hE68.symm
                      subst hE68
                      refine J_icmp_ge (tgt := 91) dX5_countReached_71 (by decide) (fun c71 => ?_) (fun c71 => ?_)
                      · refine J_iinc dX5_countReached_91 rfl j_inc1 rfl (by decide) ?_
                        refine J_goto (tgt := 51) dX5_countReached_94 (by decide) ?_
                        refine J.mask [true, true, true, true, false] ?_
                        exact ih51 _ _ hW he hkp ha0 ha1  (jdec_up (Int32.not_le.mp c56) (by assumption))
                      · refine J_aload_n dX5_countReached_74 rfl ?_
                        refine J_aload_n dX5_countReached_75 rfl ?_
                        refine J_iload_n dX5_countReached_76 rfl ?_
                        refine J_iload dX5_countReached_77 rfl ?_
                        refine Jw_callV2 (q9 := (RX5, TX5, 7)) moX5_numberTurned jw_ml_X5_69 jw_im_X5_numberTurned jw_se_X5_numberTurned ha0 rfl rfl dX5_countReached_79 (w_X5_numberTurned (d - 1) _ _ _ _ (by omega) hW  ha0 ) (by omega) (Nat.zero_le _) (Nat.zero_le _) (Nat.le_of_ble_eq_true rfl) (fun r79 V79 h79 => ?_)
                        obtain ⟨⟨y79, rfl, hl79, hh79⟩, hE79⟩ := h79
                        have hE79 := hE79.symm
                        subst hE79
                        refine Jw_callV1 (q9 := (RX5, TX5, 7)) moX5_arriveAt jw_ml_X5_60 jw_im_X5_arriveAt jw_se_X5_arriveAt ha0 rfl rfl dX5_countReached_82 (w_X5_arriveAt (d - 1) _ _ _ (by omega) hW  ha0 ) (by omega) (Nat.zero_le _) (Nat.zero_le _) (Nat.le_of_ble_eq_true rfl) (fun r82 V82 h82 => ?_)
                        obtain ⟨hW, hx82, hr82⟩ := h82
                        have hkp := hkp.trans he.1 (jrk.of hx82 (jdis_of rfl))
                        have he := he.trans (hx82.sub (jsub_of rfl))
                        have ha0 := ha0.mono hx82.1
                        have ha1 := ha1.mono hx82.1
                        cases hr82
                        refine J_iinc dX5_countReached_85 rfl j_inc1 rfl (by decide) ?_
                        refine J_goto (tgt := 62) dX5_countReached_88 (by decide) ?_
                        refine J.mask [true, true, true, true, true] ?_
                        exact ih62 _ _ hW he hkp ha0 ha1  (jdec_up (Int32.not_le.mp c71) (by assumption))
                  refine J.mask [true, true, true, true, true] ?_
                  exact L62 _ _ _ hW he hkp ha0 ha1  (Nat.lt_succ_self _)
            refine J.mask [true, true, true, true, false] ?_
            exact L51 _ _ _ hW he hkp ha0 ha1  (Nat.lt_succ_self _)
    refine J.mask [true, true, true, false, false] ?_
    exact L22 _ _ _ hW he hkp ha0 ha1 (by decide) (Nat.lt_succ_self _)
set_option maxRecDepth 100000 in
set_option maxHeartbeats 4000000 in
theorem w_X6_forms_old {tS : jTS} (d : Nat) (V0 : jH) (a0 : Nat) (x1 : Int32) (x2 : Int32) (fs : List Value) (tl : Nat) (f : Nat → Option Nat) (hd : 28 ≤ d) (hW : WT V0) (ha0 : jis V0 (.inr 4) a0) (hx : V0 a0 = some (.inr (4, fs))) (h5 : fs[5]? = some (.ref tl)) (htl : V0 tl = some (.inl (5, 4, .inr (.inr (.inr (.inr f)))))) (ho : ∀ j, x1 = nI j → j < 4 → ∃ t, f j = some t) (hb1 : ¬ x1 < 0) (hb2 : ¬ Int32.ofNat 4 ≤ x1) (hb3 : ¬ x2 < 0) (hb4 : x2 ≤ 20) : jTot tS mX6_forms d [.ref a0, .int x1, .int x2] V0 0 0 (fun r V => (jPost [.inr 2, .inl 1, .inl 2, .inl 8, .inr 1, .inl 6, .inl 34, .inl 35, .inl 36, .inl 13] V0 rN) r V ∧ jrt a0 V0 V) := by
  refine jTot.of_J [some (.ref a0), some (.int x1), some (.int x2), none] moX6_forms (Nat.le_of_ble_eq_true rfl) rfl ?_
  have he : jeff [.inr 2, .inl 1, .inl 2, .inl 8, .inr 1, .inl 6, .inl 34, .inl 35, .inl 36, .inl 13] V0 V0 := jeff.refl _ _
  have hkp : jrt a0 V0 V0 := jrt.rf
  have hKx : jokO V0 (jFs 4) fs := hW _ _ id hx
  have htlk : jis V0 (.inl 5) tl := ⟨_, htl, rfl⟩
  have hN4 : (4 : Nat) < 2 ^ 31 := by decide
  have hvt : ∀ (j b : Nat), j < 4 → f j = some b → jis V0 (.inr 2) b := by
    obtain ⟨n9, f9, h91, h92, h93, h94⟩ := WT_arrR hW id rfl htlk
    cases htl.symm.trans h91
    exact h94
  refine J_aload_n dX6_forms_0 rfl ?_
  refine J_iload_n dX6_forms_1 rfl ?_
  refine J_iload_n dX6_forms_2 rfl ?_
  refine J_iconst (v := 0) dX6_forms_3 (by decide) ?_
  refine Jw_callV3 (q9 := (RX6, TX6, 7)) moX6_tallyFor jw_ml_X6_149 jw_im_X6_tallyFor jw_se_X6_tallyFor ha0 rfl rfl dX6_forms_4 (w_X6_tallyFor_old (d - 1) _ _ _ _ _ fs tl f (by omega) hW ha0 hx h5 htl ho hb1 hb2 hb3 hb4) (by omega) (Nat.zero_le _) (Nat.zero_le _) (Nat.le_of_ble_eq_true rfl) (fun r4 V4 h4 => ?_)
  obtain ⟨hr4, hE4⟩ := h4
  have hE4 := hE4.symm
  subst hE4
  obtain ⟨j, t, hj, hg, ht, rfl⟩ := hr4
  · have hbt : jis V0 (.inr 2) t := hvt j t hj ht
    refine J_astore_n dX6_forms_7 rfl (by decide) ?_
    refine J_aload_n dX6_forms_8 rfl ?_
    refine J_ifnull dX6_forms_9 ?_
    refine J_iload_n dX6_forms_12 rfl ?_
    refine J_bipush (v := 7) dX6_forms_13 (by decide) ?_
    refine J_icmp_le (tgt := 21) dX6_forms_15 (by decide) (fun c15 => ?_) (fun c15 => ?_)
    · refine J_aload_n dX6_forms_21 rfl ?_
      refine J_iload_n dX6_forms_22 rfl ?_
      refine Jw_callV1 (q9 := (RX4, TX4, 14)) moX4_holds jw_ml_X6_153 jw_im_X4_holds jw_se_X4_holds hbt rfl rfl dX6_forms_23 (w_X4_holds (d - 1) _ _ _ (by omega) hW  hbt ) (by omega) (Nat.zero_le _) (Nat.zero_le _) (Nat.le_of_ble_eq_true rfl) (fun r23 V23 h23 => ?_)
      obtain ⟨hW, hx23, hr23⟩ := h23
      have hkp := hkp.trans he.1 (jrt.of hx23 (jdis_of rfl))
      have he := he.trans (hx23.sub (jsub_of rfl))
      have ha0 := ha0.mono hx23.1
      have htlk := htlk.mono hx23.1
      have hbt := hbt.mono hx23.1
      have hx := hx23.2 _ _ hx (jnot_of rfl)
      have hKx := hKx.mono hx23.1
      have htl := hx23.2 _ _ htl (jnot_of rfl)
      obtain ⟨y23, rfl, hl23, hh23⟩ := hr23
      refine J_if_eq (tgt := 43) dX6_forms_26 (by decide) (fun c26 => ?_) (fun c26 => ?_)
      · refine J_bipush (v := -5) dX6_forms_43 (by decide) ?_
        exact J_ret (r := some (.int _)) dX6_forms_45 ⟨rfl, _, rfl, rfl⟩ (⟨⟨hW, he, rN_of _⟩, hkp⟩)
      · refine J_aload_n dX6_forms_29 rfl ?_
        obtain ⟨fs30, hO30, hK30⟩ := WT_obj hW id hbt
        obtain ⟨w30, hF30, b30, rfl, hb30⟩ := hK30.2 4 (.inr (some (.inl 8))) rfl
        refine J_get jf_X6_156 dX6_forms_30 hO30 hF30 ?_
        refine J_iload_n dX6_forms_33 rfl ?_
        refine J_callS2 moX6_cell jw_ml_X6_110 jw_st_X6_cell dX6_forms_34 (w_X6_cell (d - 1) _ _ _ hW hb30 rfl rfl) (by omega) (Nat.zero_le _) (Nat.zero_le _) (Nat.le_of_ble_eq_true rfl) (fun r34 V34 h34 => ?_)
        obtain ⟨⟨y34, rfl, hl34, hh34⟩, hE34⟩ := h34
        have hE34 := hE34.symm
        subst hE34
        refine J_sipush (v := 3000) dX6_forms_37 (by decide) ?_
        refine J_icmp_le (tgt := 46) dX6_forms_40 (by decide) (fun c40 => ?_) (fun c40 => ?_)
        · refine J_aload_n dX6_forms_46 rfl ?_
          obtain ⟨w47, hF47, b47, rfl, hb47⟩ := hK30.2 8 (.inr (some (.inl 13))) rfl
          refine J_get jf_X6_176 dX6_forms_47 hO30 hF47 ?_
          refine J_iload_n dX6_forms_50 rfl ?_
          refine J_callS2 moX6_cell jw_ml_X6_110 jw_st_X6_cell dX6_forms_51 (w_X6_cell (d - 1) _ _ _ hW hb47 rfl rfl) (by omega) (Nat.zero_le _) (Nat.zero_le _) (Nat.le_of_ble_eq_true rfl) (fun r51 V51 h51 => ?_)
          obtain ⟨⟨y51, rfl, hl51, hh51⟩, hE51⟩ := h51
          have hE51 := hE51.symm
          subst hE51
          refine J_iconst (v := -1) dX6_forms_54 (by decide) ?_
          refine J_icmp_ne (tgt := 83) dX6_forms_55 (by decide) (fun c55 => ?_) (fun c55 => ?_)
          · refine J_aload_n dX6_forms_83 rfl ?_
            refine J_get jf_X6_176 dX6_forms_84 hO30 hF47 ?_
            refine J_iload_n dX6_forms_87 rfl ?_
            refine J_callS2 moX6_cell jw_ml_X6_110 jw_st_X6_cell dX6_forms_88 (w_X6_cell (d - 1) _ _ _ hW hb47 rfl rfl) (by omega) (Nat.zero_le _) (Nat.zero_le _) (Nat.le_of_ble_eq_true rfl) (fun r88 V88 h88 => ?_)
            obtain ⟨⟨y88, rfl, hl88, hh88⟩, hE88⟩ := h88
            have hE88 := hE88.symm
            subst hE88
            exact J_ret (r := some (.int _)) dX6_forms_91 ⟨rfl, _, rfl, rfl⟩ (⟨⟨hW, he, rN_of _⟩, hkp⟩)
          · refine J_aload_n dX6_forms_58 rfl ?_
            obtain ⟨w59, hF59, b59, rfl, hb59⟩ := hKx.2 2 (.inr (some (.inr 1))) rfl
            refine J_get jf_X6_22 dX6_forms_59 hx hF59 ?_
            refine J_iload_n dX6_forms_62 rfl ?_
            refine Jw_callV1 (q9 := (RX3, TX3, 7)) moX3_begin jw_ml_X6_52 jw_im_X3_begin jw_se_X3_begin hb59 rfl rfl dX6_forms_63 (w_X3_begin_rk0 (d - 1) _ _ _ (by omega) hW hb59 ) (by omega) (Nat.zero_le _) (Nat.zero_le _) (Nat.le_of_ble_eq_true rfl) (fun r63 V63 h63 => ?_)
            obtain ⟨⟨hW, hx63, hr63⟩, hk63⟩ := h63
            have hkp := hkp.trans he.1 (jrt.call hx hF59 hk63)
            have he := he.trans (hx63.sub (jsub_of rfl))
            have ha0 := ha0.mono hx63.1
            have htlk := htlk.mono hx63.1
            have hbt := hbt.mono hx63.1
            have hb30 := hb30.mono hx63.1
            have hb47 := hb47.mono hx63.1
            have hb59 := hb59.mono hx63.1
            have hx := hx63.2 _ _ hx (jnot_of rfl)
            have hKx := hKx.mono hx63.1
            have hO30 := hx63.2 _ _ hO30 (jnot_of rfl)
            have hK30 := hK30.mono hx63.1
            have htl := hx63.2 _ _ htl (jnot_of rfl)
            cases hr63
            · refine J_aload_n dX6_forms_66 rfl ?_
              refine J_get jf_X6_176 dX6_forms_67 hO30 hF47 ?_
              refine J_iload_n dX6_forms_70 rfl ?_
              refine J_aload_n dX6_forms_71 rfl ?_
              refine J_get jf_X6_22 dX6_forms_72 hx hF59 ?_
              refine J_iload_n dX6_forms_75 rfl ?_
              refine J_iconst (v := 0) dX6_forms_76 (by decide) ?_
              refine J_callSN3 moX1_countForms (host := "WalkGrounds") (List.mem_of_getElem? (i := 5) rfl) jw_st_X1_countForms dX6_forms_77 (w_X1_countForms 9 (d - 1) _ _ _ _ (by omega) hW hb59 (by decide) (by decide) (by decide)) (by omega) (Nat.zero_le _) (Nat.zero_le _) (Nat.le_of_ble_eq_true rfl) (fun r77 V77 h77 => ?_)
              obtain ⟨⟨hW, hx77, hr77⟩, hk77⟩ := h77
              have hkp := hkp.trans he.1 (jrt.call hx hF59 hk77)
              have he := he.trans (hx77.sub (jsub_of rfl))
              have ha0 := ha0.mono hx77.1
              have htlk := htlk.mono hx77.1
              have hbt := hbt.mono hx77.1
              have hb30 := hb30.mono hx77.1
              have hb47 := hb47.mono hx77.1
              have hb59 := hb59.mono hx77.1
              have hx := hx77.2 _ _ hx (jnot_of rfl)
              have hKx := hKx.mono hx77.1
              have hO30 := hx77.2 _ _ hO30 (jnot_of rfl)
              have hK30 := hK30.mono hx77.1
              have htl := hx77.2 _ _ htl (jnot_of rfl)
              obtain ⟨y77, rfl, hl77, hh77⟩ := hr77
              refine J_callS3 moX6_put jw_ml_X6_183 jw_st_X6_put dX6_forms_80 (w_X6_put (d - 1) _ _ _ _ hW hb47 rfl rfl) (by omega) (Nat.zero_le _) (Nat.zero_le _) (Nat.le_of_ble_eq_true rfl) (fun r80 V80 h80 => ?_)
              obtain ⟨hW, hx80, hr80⟩ := h80
              have hkp := hkp.trans he.1 (jrt.of hx80 (jdis_of rfl))
              have he := he.trans (hx80.sub (jsub_of rfl))
              have ha0 := ha0.mono hx80.1
              have htlk := htlk.mono hx80.1
              have hbt := hbt.mono hx80.1
              have hb30 := hb30.mono hx80.1
              have hb47 := hb47.mono hx80.1
              have hb59 := hb59.mono hx80.1
              have hx := hx80.2 _ _ hx (jnot_of rfl)
              have hKx := hKx.mono hx80.1
              have hO30 := hx80.2 _ _ hO30 (jnot_of rfl)
              have hK30 := hK30.mono hx80.1
              have htl := hx80.2 _ _ htl (jnot_of rfl)
              cases hr80
              refine J_aload_n dX6_forms_83 rfl ?_
              refine J_get jf_X6_176 dX6_forms_84 hO30 hF47 ?_
              refine J_iload_n dX6_forms_87 rfl ?_
              refine J_callS2 moX6_cell jw_ml_X6_110 jw_st_X6_cell dX6_forms_88 (w_X6_cell (d - 1) _ _ _ hW hb47 rfl rfl) (by omega) (Nat.zero_le _) (Nat.zero_le _) (Nat.le_of_ble_eq_true rfl) (fun r88 V88 h88 => ?_)
              obtain ⟨⟨y88, rfl, hl88, hh88⟩, hE88⟩ := h88
              have hE88 := hE88.symm
              subst hE88
              exact J_ret (r := some (.int _)) dX6_forms_91 ⟨rfl, _, rfl, rfl⟩ (⟨⟨hW, he, rN_of _⟩, hkp⟩)
        · refine J_bipush (v := -5) dX6_forms_43 (by decide) ?_
          exact J_ret (r := some (.int _)) dX6_forms_45 ⟨rfl, _, rfl, rfl⟩ (⟨⟨hW, he, rN_of _⟩, hkp⟩)
    · refine J_bipush (v := -2) dX6_forms_18 (by decide) ?_
      exact J_ret (r := some (.int _)) dX6_forms_20 ⟨rfl, _, rfl, rfl⟩ (⟨⟨hW, he, rN_of _⟩, hkp⟩)
set_option maxRecDepth 100000 in
set_option maxHeartbeats 4000000 in
theorem w_X6_forms_new {tS : jTS} (d : Nat) (V0 : jH) (a0 : Nat) (x1 : Int32) (x2 : Int32) (fs : List Value) (tl : Nat) (f : Nat → Option Nat) (j : Nat) (hd : 28 ≤ d) (hW : WT V0) (ha0 : jis V0 (.inr 4) a0) (hx : V0 a0 = some (.inr (4, fs))) (h5 : fs[5]? = some (.ref tl)) (htl : V0 tl = some (.inl (5, 4, .inr (.inr (.inr (.inr f)))))) (hg : x1 = nI j) (hj : j < 4) (hf : f j = none) (hb1 : ¬ x1 < 0) (hb2 : ¬ Int32.ofNat 4 ≤ x1) (hb3 : ¬ x2 < 0) (hb4 : x2 ≤ 20) : jTot tS mX6_forms d [.ref a0, .int x1, .int x2] V0 8 15738 (fun r V => (fun r V => WT V ∧ jeff [.inl 5, .inr 2, .inl 1, .inl 2, .inl 8, .inr 1, .inl 6, .inl 34, .inl 35, .inl 36, .inl 13] V0 V ∧ rN r V ∧ ∃ f2 : Nat → Option Nat, V tl = some (.inl (5, 4, .inr (.inr (.inr (.inr f2))))) ∧ (∀ i, i ≠ j → f2 i = f i) ∧ ∃ t, f2 j = some t) r V ∧ jrt a0 V0 V) := by
  refine jTot.of_J [some (.ref a0), some (.int x1), some (.int x2), none] moX6_forms (Nat.le_of_ble_eq_true rfl) rfl ?_
  have he : jeff [.inl 5, .inr 2, .inl 1, .inl 2, .inl 8, .inr 1, .inl 6, .inl 34, .inl 35, .inl 36, .inl 13] V0 V0 := jeff.refl _ _
  have hkp : jrt a0 V0 V0 := jrt.rf
  have hKx : jokO V0 (jFs 4) fs := hW _ _ id hx
  have htlk : jis V0 (.inl 5) tl := ⟨_, htl, rfl⟩
  have hN4 : (4 : Nat) < 2 ^ 31 := by decide
  have hvt : ∀ (j b : Nat), j < 4 → f j = some b → jis V0 (.inr 2) b := by
    obtain ⟨n9, f9, h91, h92, h93, h94⟩ := WT_arrR hW id rfl htlk
    cases htl.symm.trans h91
    exact h94
  refine J_aload_n dX6_forms_0 rfl ?_
  refine J_iload_n dX6_forms_1 rfl ?_
  refine J_iload_n dX6_forms_2 rfl ?_
  refine J_iconst (v := 0) dX6_forms_3 (by decide) ?_
  refine Jw_callV3 (q9 := (RX6, TX6, 7)) moX6_tallyFor jw_ml_X6_149 jw_im_X6_tallyFor jw_se_X6_tallyFor ha0 rfl rfl dX6_forms_4 (w_X6_tallyFor_new (d - 1) _ _ _ _ _ fs tl f j (by omega) hW ha0 hx h5 htl hg hj hf hb1 hb2 hb3 hb4) (by omega) (by omega) (by omega) (Nat.le_of_ble_eq_true rfl) (fun r4 V4 h4 => ?_)
  obtain ⟨t, rfl, hW, hx4, hbt, htl2⟩ := h4
  · have hkp := hkp.trans he.1 (jrt.of hx4 (jdis_of rfl))
    have he := he.trans (hx4.sub (jsub_of rfl))
    have ha0 := ha0.mono hx4.1
    refine J_astore_n dX6_forms_7 rfl (by decide) ?_
    refine J_aload_n dX6_forms_8 rfl ?_
    refine J_ifnull dX6_forms_9 ?_
    refine J_iload_n dX6_forms_12 rfl ?_
    refine J_bipush (v := 7) dX6_forms_13 (by decide) ?_
    refine J_icmp_le (tgt := 21) dX6_forms_15 (by decide) (fun c15 => ?_) (fun c15 => ?_)
    · refine J_aload_n dX6_forms_21 rfl ?_
      refine J_iload_n dX6_forms_22 rfl ?_
      refine Jw_callV1 (q9 := (RX4, TX4, 14)) moX4_holds jw_ml_X6_153 jw_im_X4_holds jw_se_X4_holds hbt rfl rfl dX6_forms_23 (w_X4_holds (d - 1) _ _ _ (by omega) hW  hbt ) (by omega) (Nat.zero_le _) (Nat.zero_le _) (Nat.le_of_ble_eq_true rfl) (fun r23 V23 h23 => ?_)
      obtain ⟨hW, hx23, hr23⟩ := h23
      have hkp := hkp.trans he.1 (jrt.of hx23 (jdis_of rfl))
      have he := he.trans (hx23.sub (jsub_of rfl))
      have ha0 := ha0.mono hx23.1
      have hbt := hbt.mono hx23.1
      have htl2 := hx23.2 _ _ htl2 (jnot_of rfl)
      obtain ⟨y23, rfl, hl23, hh23⟩ := hr23
      refine J_if_eq (tgt := 43) dX6_forms_26 (by decide) (fun c26 => ?_) (fun c26 => ?_)
      · refine J_bipush (v := -5) dX6_forms_43 (by decide) ?_
        exact J_ret (r := some (.int _)) dX6_forms_45 ⟨rfl, _, rfl, rfl⟩ (⟨⟨hW, he, rN_of _, ⟨_, htl2, fun i hi => va_up_ne _ _ hi, _, va_up_self _ _ _⟩⟩, hkp⟩)
      · refine J_aload_n dX6_forms_29 rfl ?_
        obtain ⟨fs30, hO30, hK30⟩ := WT_obj hW id hbt
        obtain ⟨w30, hF30, b30, rfl, hb30⟩ := hK30.2 4 (.inr (some (.inl 8))) rfl
        refine J_get jf_X6_156 dX6_forms_30 hO30 hF30 ?_
        refine J_iload_n dX6_forms_33 rfl ?_
        refine J_callS2 moX6_cell jw_ml_X6_110 jw_st_X6_cell dX6_forms_34 (w_X6_cell (d - 1) _ _ _ hW hb30 rfl rfl) (by omega) (Nat.zero_le _) (Nat.zero_le _) (Nat.le_of_ble_eq_true rfl) (fun r34 V34 h34 => ?_)
        obtain ⟨⟨y34, rfl, hl34, hh34⟩, hE34⟩ := h34
        have hE34 := hE34.symm
        subst hE34
        refine J_sipush (v := 3000) dX6_forms_37 (by decide) ?_
        refine J_icmp_le (tgt := 46) dX6_forms_40 (by decide) (fun c40 => ?_) (fun c40 => ?_)
        · refine J_aload_n dX6_forms_46 rfl ?_
          obtain ⟨w47, hF47, b47, rfl, hb47⟩ := hK30.2 8 (.inr (some (.inl 13))) rfl
          refine J_get jf_X6_176 dX6_forms_47 hO30 hF47 ?_
          refine J_iload_n dX6_forms_50 rfl ?_
          refine J_callS2 moX6_cell jw_ml_X6_110 jw_st_X6_cell dX6_forms_51 (w_X6_cell (d - 1) _ _ _ hW hb47 rfl rfl) (by omega) (Nat.zero_le _) (Nat.zero_le _) (Nat.le_of_ble_eq_true rfl) (fun r51 V51 h51 => ?_)
          obtain ⟨⟨y51, rfl, hl51, hh51⟩, hE51⟩ := h51
          have hE51 := hE51.symm
          subst hE51
          refine J_iconst (v := -1) dX6_forms_54 (by decide) ?_
          refine J_icmp_ne (tgt := 83) dX6_forms_55 (by decide) (fun c55 => ?_) (fun c55 => ?_)
          · refine J_aload_n dX6_forms_83 rfl ?_
            refine J_get jf_X6_176 dX6_forms_84 hO30 hF47 ?_
            refine J_iload_n dX6_forms_87 rfl ?_
            refine J_callS2 moX6_cell jw_ml_X6_110 jw_st_X6_cell dX6_forms_88 (w_X6_cell (d - 1) _ _ _ hW hb47 rfl rfl) (by omega) (Nat.zero_le _) (Nat.zero_le _) (Nat.le_of_ble_eq_true rfl) (fun r88 V88 h88 => ?_)
            obtain ⟨⟨y88, rfl, hl88, hh88⟩, hE88⟩ := h88
            have hE88 := hE88.symm
            subst hE88
            exact J_ret (r := some (.int _)) dX6_forms_91 ⟨rfl, _, rfl, rfl⟩ (⟨⟨hW, he, rN_of _, ⟨_, htl2, fun i hi => va_up_ne _ _ hi, _, va_up_self _ _ _⟩⟩, hkp⟩)
          · refine J_aload_n dX6_forms_58 rfl ?_
            obtain ⟨fs59, hO59, hK59⟩ := WT_obj hW id ha0
            obtain ⟨w59, hF59, b59, rfl, hb59⟩ := hK59.2 2 (.inr (some (.inr 1))) rfl
            refine J_get jf_X6_22 dX6_forms_59 hO59 hF59 ?_
            refine J_iload_n dX6_forms_62 rfl ?_
            refine Jw_callV1 (q9 := (RX3, TX3, 7)) moX3_begin jw_ml_X6_52 jw_im_X3_begin jw_se_X3_begin hb59 rfl rfl dX6_forms_63 (w_X3_begin_rk0 (d - 1) _ _ _ (by omega) hW hb59 ) (by omega) (Nat.zero_le _) (Nat.zero_le _) (Nat.le_of_ble_eq_true rfl) (fun r63 V63 h63 => ?_)
            obtain ⟨⟨hW, hx63, hr63⟩, hk63⟩ := h63
            have hkp := hkp.trans he.1 (jrt.call hO59 hF59 hk63)
            have he := he.trans (hx63.sub (jsub_of rfl))
            have ha0 := ha0.mono hx63.1
            have hbt := hbt.mono hx63.1
            have hb30 := hb30.mono hx63.1
            have hb47 := hb47.mono hx63.1
            have hb59 := hb59.mono hx63.1
            have hO30 := hx63.2 _ _ hO30 (jnot_of rfl)
            have hK30 := hK30.mono hx63.1
            have hO59 := hx63.2 _ _ hO59 (jnot_of rfl)
            have hK59 := hK59.mono hx63.1
            have htl2 := hx63.2 _ _ htl2 (jnot_of rfl)
            cases hr63
            · refine J_aload_n dX6_forms_66 rfl ?_
              refine J_get jf_X6_176 dX6_forms_67 hO30 hF47 ?_
              refine J_iload_n dX6_forms_70 rfl ?_
              refine J_aload_n dX6_forms_71 rfl ?_
              refine J_get jf_X6_22 dX6_forms_72 hO59 hF59 ?_
              refine J_iload_n dX6_forms_75 rfl ?_
              refine J_iconst (v := 0) dX6_forms_76 (by decide) ?_
              refine J_callSN3 moX1_countForms (host := "WalkGrounds") (List.mem_of_getElem? (i := 5) rfl) jw_st_X1_countForms dX6_forms_77 (w_X1_countForms 9 (d - 1) _ _ _ _ (by omega) hW hb59 (by decide) (by decide) (by decide)) (by omega) (Nat.zero_le _) (Nat.zero_le _) (Nat.le_of_ble_eq_true rfl) (fun r77 V77 h77 => ?_)
              obtain ⟨⟨hW, hx77, hr77⟩, hk77⟩ := h77
              have hkp := hkp.trans he.1 (jrt.call hO59 hF59 hk77)
              have he := he.trans (hx77.sub (jsub_of rfl))
              have ha0 := ha0.mono hx77.1
              have hbt := hbt.mono hx77.1
              have hb30 := hb30.mono hx77.1
              have hb47 := hb47.mono hx77.1
              have hb59 := hb59.mono hx77.1
              have hO30 := hx77.2 _ _ hO30 (jnot_of rfl)
              have hK30 := hK30.mono hx77.1
              have hO59 := hx77.2 _ _ hO59 (jnot_of rfl)
              have hK59 := hK59.mono hx77.1
              have htl2 := hx77.2 _ _ htl2 (jnot_of rfl)
              obtain ⟨y77, rfl, hl77, hh77⟩ := hr77
              refine J_callS3 moX6_put jw_ml_X6_183 jw_st_X6_put dX6_forms_80 (w_X6_put (d - 1) _ _ _ _ hW hb47 rfl rfl) (by omega) (Nat.zero_le _) (Nat.zero_le _) (Nat.le_of_ble_eq_true rfl) (fun r80 V80 h80 => ?_)
              obtain ⟨hW, hx80, hr80⟩ := h80
              have hkp := hkp.trans he.1 (jrt.of hx80 (jdis_of rfl))
              have he := he.trans (hx80.sub (jsub_of rfl))
              have ha0 := ha0.mono hx80.1
              have hbt := hbt.mono hx80.1
              have hb30 := hb30.mono hx80.1
              have hb47 := hb47.mono hx80.1
              have hb59 := hb59.mono hx80.1
              have hO30 := hx80.2 _ _ hO30 (jnot_of rfl)
              have hK30 := hK30.mono hx80.1
              have hO59 := hx80.2 _ _ hO59 (jnot_of rfl)
              have hK59 := hK59.mono hx80.1
              have htl2 := hx80.2 _ _ htl2 (jnot_of rfl)
              cases hr80
              refine J_aload_n dX6_forms_83 rfl ?_
              refine J_get jf_X6_176 dX6_forms_84 hO30 hF47 ?_
              refine J_iload_n dX6_forms_87 rfl ?_
              refine J_callS2 moX6_cell jw_ml_X6_110 jw_st_X6_cell dX6_forms_88 (w_X6_cell (d - 1) _ _ _ hW hb47 rfl rfl) (by omega) (Nat.zero_le _) (Nat.zero_le _) (Nat.le_of_ble_eq_true rfl) (fun r88 V88 h88 => ?_)
              obtain ⟨⟨y88, rfl, hl88, hh88⟩, hE88⟩ := h88
              have hE88 := hE88.symm
              subst hE88
              exact J_ret (r := some (.int _)) dX6_forms_91 ⟨rfl, _, rfl, rfl⟩ (⟨⟨hW, he, rN_of _, ⟨_, htl2, fun i hi => va_up_ne _ _ hi, _, va_up_self _ _ _⟩⟩, hkp⟩)
        · refine J_bipush (v := -5) dX6_forms_43 (by decide) ?_
          exact J_ret (r := some (.int _)) dX6_forms_45 ⟨rfl, _, rfl, rfl⟩ (⟨⟨hW, he, rN_of _, ⟨_, htl2, fun i hi => va_up_ne _ _ hi, _, va_up_self _ _ _⟩⟩, hkp⟩)
    · refine J_bipush (v := -2) dX6_forms_18 (by decide) ?_
      exact J_ret (r := some (.int _)) dX6_forms_20 ⟨rfl, _, rfl, rfl⟩ (⟨⟨hW, he, rN_of _, ⟨_, htl2, fun i hi => va_up_ne _ _ hi, _, va_up_self _ _ _⟩⟩, hkp⟩)
set_option maxRecDepth 100000 in
set_option maxHeartbeats 4000000 in
theorem w_X7_init {tS : jTS} (d : Nat) (V0 : jH) (q : Nat)  (hd : 1 ≤ d) (hW : WTx (fun a => False ∨ a = q) V0) (hq : V0 q = some (.inr (5, [.int 0, .null, .null, .null, .null, .int 0, .null, .null, .null, .null, .null, .null, .null, .null, .null, .null, .null, .null, .null, .null, .null, .null, .int 0, .int 0, .int 0, .null, .int 0, .int 0, .int 0, .null, .null, .null, .null, .null])))   : jTot tS mX7_init d [.ref q] V0 26 101822 (fun r V => r = none ∧ WTx (fun _ => False) V ∧ jeff [.inr 5] V0 V ∧ jis V (.inr 5) q ∧ jfI V q 5 0 0 ∧ jfI V q 5 23 2 ∧ jfI V q 5 24 2 ∧ (jmx V q)) := by
  refine jTot.of_J [some (.ref q)] moX7_init (Nat.le_of_ble_eq_true rfl) rfl ?_
  have he : jeff [.inr 5] V0 V0 := jeff.refl _ _
  refine J_aload_n dX7_init_0 rfl ?_
  refine J_objInit jw_ml_X7_1 jw_oi2 jw_oi3 dX7_init_1 (by omega) (Nat.le_of_ble_eq_true rfl) ?_
  refine J_aload_n dX7_init_4 rfl ?_
  refine J_bipush (v := 16) dX7_init_5 (by decide) ?_
  refine Jc_newa (atype := .int) (t := 14) (B := 16) (x := .inl (fun _ => 0)) jw_ac_int rfl (fun _ h => by cases h) (by decide) dX7_init_7 (by decide) (by decide) (by decide) (fun _ _ => rfl) (fun hN => jok_zI rfl (by decide) (by decide) (fun m h => by cases h <;> rfl) hN) (by decide) (by decide) hW (fun b7 V7 hn7 hb7 hk7 hW hx7 => ?_)
  have hz7 := he.1.none hn7
  have he := he.trans (hx7.sub (jsub_of rfl))
  have hq := hk7 _ _ hq
  refine Jc_putF jf_X7_7 jt_X7_1 rfl (fun _ h => by cases h; rfl) dX7_init_9 hq rfl rfl (Nat.le_of_ble_eq_true rfl) (fun _ h => by cases h) hW (fun V9 hq hW hx9 hB9 => ?_)
  have hq : V9 q = some (.inr (5, [.int 0, .ref b7, .null, .null, .null, .int 0, .null, .null, .null, .null, .null, .null, .null, .null, .null, .null, .null, .null, .null, .null, .null, .null, .int 0, .int 0, .int 0, .null, .int 0, .int 0, .int 0, .null, .null, .null, .null, .null])) := hq
  have he := he.trans (hx9.sub (jsub_of rfl))
  have hb7 := hb7.mono hx9.1
  refine J_aload_n dX7_init_12 rfl ?_
  refine J_bipush (v := 16) dX7_init_13 (by decide) ?_
  refine Jc_newa (atype := .int) (t := 15) (B := 16) (x := .inl (fun _ => 0)) jw_ac_int rfl (fun _ h => by cases h) (by decide) dX7_init_15 (by decide) (by decide) (by decide) (fun _ _ => rfl) (fun hN => jok_zI rfl (by decide) (by decide) (fun m h => by cases h <;> rfl) hN) (by decide) (by decide) hW (fun b15 V15 hn15 hb15 hk15 hW hx15 => ?_)
  have hz15 := he.1.none hn15
  have he := he.trans (hx15.sub (jsub_of rfl))
  have hb7 := hb7.mono hx15.1
  have hq := hk15 _ _ hq
  refine Jc_putF jf_X7_13 jt_X7_2 rfl (fun _ h => by cases h; rfl) dX7_init_17 hq rfl rfl (Nat.le_of_ble_eq_true rfl) (fun _ h => by cases h) hW (fun V17 hq hW hx17 hB17 => ?_)
  have hq : V17 q = some (.inr (5, [.int 0, .ref b7, .ref b15, .null, .null, .int 0, .null, .null, .null, .null, .null, .null, .null, .null, .null, .null, .null, .null, .null, .null, .null, .null, .int 0, .int 0, .int 0, .null, .int 0, .int 0, .int 0, .null, .null, .null, .null, .null])) := hq
  have he := he.trans (hx17.sub (jsub_of rfl))
  have hb7 := hb7.mono hx17.1
  have hb15 := hb15.mono hx17.1
  refine J_aload_n dX7_init_20 rfl ?_
  refine J_sipush (v := 960) dX7_init_21 (by decide) ?_
  refine Jc_newa (atype := .int) (t := 16) (B := 960) (x := .inl (fun _ => 0)) jw_ac_int rfl (fun _ h => by cases h) (by decide) dX7_init_24 (by decide) (by decide) (by decide) (fun _ _ => rfl) (fun hN => jok_zI rfl (by decide) (by decide) (fun m h => by cases h <;> rfl) hN) (by decide) (by decide) hW (fun b24 V24 hn24 hb24 hk24 hW hx24 => ?_)
  have hz24 := he.1.none hn24
  have he := he.trans (hx24.sub (jsub_of rfl))
  have hb7 := hb7.mono hx24.1
  have hb15 := hb15.mono hx24.1
  have hq := hk24 _ _ hq
  refine Jc_putF jf_X7_16 jt_X7_3 rfl (fun _ h => by cases h; rfl) dX7_init_26 hq rfl rfl (Nat.le_of_ble_eq_true rfl) (fun _ h => by cases h) hW (fun V26 hq hW hx26 hB26 => ?_)
  have hq : V26 q = some (.inr (5, [.int 0, .ref b7, .ref b15, .ref b24, .null, .int 0, .null, .null, .null, .null, .null, .null, .null, .null, .null, .null, .null, .null, .null, .null, .null, .null, .int 0, .int 0, .int 0, .null, .int 0, .int 0, .int 0, .null, .null, .null, .null, .null])) := hq
  have he := he.trans (hx26.sub (jsub_of rfl))
  have hb7 := hb7.mono hx26.1
  have hb15 := hb15.mono hx26.1
  have hb24 := hb24.mono hx26.1
  refine J_aload_n dX7_init_29 rfl ?_
  refine J_bipush (v := 120) dX7_init_30 (by decide) ?_
  refine Jc_newa (atype := .int) (t := 17) (B := 120) (x := .inl (fun _ => 0)) jw_ac_int rfl (fun _ h => by cases h) (by decide) dX7_init_32 (by decide) (by decide) (by decide) (fun _ _ => rfl) (fun hN => jok_zI rfl (by decide) (by decide) (fun m h => by cases h <;> rfl) hN) (by decide) (by decide) hW (fun b32 V32 hn32 hb32 hk32 hW hx32 => ?_)
  have hz32 := he.1.none hn32
  have he := he.trans (hx32.sub (jsub_of rfl))
  have hb7 := hb7.mono hx32.1
  have hb15 := hb15.mono hx32.1
  have hb24 := hb24.mono hx32.1
  have hq := hk32 _ _ hq
  refine Jc_putF jf_X7_19 jt_X7_4 rfl (fun _ h => by cases h; rfl) dX7_init_34 hq rfl rfl (Nat.le_of_ble_eq_true rfl) (fun _ h => by cases h) hW (fun V34 hq hW hx34 hB34 => ?_)
  have hq : V34 q = some (.inr (5, [.int 0, .ref b7, .ref b15, .ref b24, .ref b32, .int 0, .null, .null, .null, .null, .null, .null, .null, .null, .null, .null, .null, .null, .null, .null, .null, .null, .int 0, .int 0, .int 0, .null, .int 0, .int 0, .int 0, .null, .null, .null, .null, .null])) := hq
  have he := he.trans (hx34.sub (jsub_of rfl))
  have hb7 := hb7.mono hx34.1
  have hb15 := hb15.mono hx34.1
  have hb24 := hb24.mono hx34.1
  have hb32 := hb32.mono hx34.1
  refine J_aload_n dX7_init_37 rfl ?_
  refine J_bipush (v := 121) dX7_init_38 (by decide) ?_
  refine Jc_newa (atype := .int) (t := 18) (B := 121) (x := .inl (fun _ => 0)) jw_ac_int rfl (fun _ h => by cases h) (by decide) dX7_init_40 (by decide) (by decide) (by decide) (fun _ _ => rfl) (fun hN => jok_zI rfl (by decide) (by decide) (fun m h => by cases h <;> rfl) hN) (by decide) (by decide) hW (fun b40 V40 hn40 hb40 hk40 hW hx40 => ?_)
  have hz40 := he.1.none hn40
  have he := he.trans (hx40.sub (jsub_of rfl))
  have hb7 := hb7.mono hx40.1
  have hb15 := hb15.mono hx40.1
  have hb24 := hb24.mono hx40.1
  have hb32 := hb32.mono hx40.1
  have hq := hk40 _ _ hq
  refine Jc_putF jf_X7_22 jt_X7_6 rfl (fun _ h => by cases h; rfl) dX7_init_42 hq rfl rfl (Nat.le_of_ble_eq_true rfl) (fun _ h => by cases h) hW (fun V42 hq hW hx42 hB42 => ?_)
  have hq : V42 q = some (.inr (5, [.int 0, .ref b7, .ref b15, .ref b24, .ref b32, .int 0, .ref b40, .null, .null, .null, .null, .null, .null, .null, .null, .null, .null, .null, .null, .null, .null, .null, .int 0, .int 0, .int 0, .null, .int 0, .int 0, .int 0, .null, .null, .null, .null, .null])) := hq
  have he := he.trans (hx42.sub (jsub_of rfl))
  have hb7 := hb7.mono hx42.1
  have hb15 := hb15.mono hx42.1
  have hb24 := hb24.mono hx42.1
  have hb32 := hb32.mono hx42.1
  have hb40 := hb40.mono hx42.1
  refine J_aload_n dX7_init_45 rfl ?_
  refine J_bipush (v := 121) dX7_init_46 (by decide) ?_
  refine Jc_newa (atype := .int) (t := 19) (B := 121) (x := .inl (fun _ => 0)) jw_ac_int rfl (fun _ h => by cases h) (by decide) dX7_init_48 (by decide) (by decide) (by decide) (fun _ _ => rfl) (fun hN => jok_zI rfl (by decide) (by decide) (fun m h => by cases h <;> rfl) hN) (by decide) (by decide) hW (fun b48 V48 hn48 hb48 hk48 hW hx48 => ?_)
  have hz48 := he.1.none hn48
  have he := he.trans (hx48.sub (jsub_of rfl))
  have hb7 := hb7.mono hx48.1
  have hb15 := hb15.mono hx48.1
  have hb24 := hb24.mono hx48.1
  have hb32 := hb32.mono hx48.1
  have hb40 := hb40.mono hx48.1
  have hq := hk48 _ _ hq
  refine Jc_putF jf_X7_25 jt_X7_7 rfl (fun _ h => by cases h; rfl) dX7_init_50 hq rfl rfl (Nat.le_of_ble_eq_true rfl) (fun _ h => by cases h) hW (fun V50 hq hW hx50 hB50 => ?_)
  have hq : V50 q = some (.inr (5, [.int 0, .ref b7, .ref b15, .ref b24, .ref b32, .int 0, .ref b40, .ref b48, .null, .null, .null, .null, .null, .null, .null, .null, .null, .null, .null, .null, .null, .null, .int 0, .int 0, .int 0, .null, .int 0, .int 0, .int 0, .null, .null, .null, .null, .null])) := hq
  have he := he.trans (hx50.sub (jsub_of rfl))
  have hb7 := hb7.mono hx50.1
  have hb15 := hb15.mono hx50.1
  have hb24 := hb24.mono hx50.1
  have hb32 := hb32.mono hx50.1
  have hb40 := hb40.mono hx50.1
  have hb48 := hb48.mono hx50.1
  refine J_aload_n dX7_init_53 rfl ?_
  refine J_bipush (v := 121) dX7_init_54 (by decide) ?_
  refine Jc_newa (atype := .int) (t := 20) (B := 121) (x := .inl (fun _ => 0)) jw_ac_int rfl (fun _ h => by cases h) (by decide) dX7_init_56 (by decide) (by decide) (by decide) (fun _ _ => rfl) (fun hN => jok_zI rfl (by decide) (by decide) (fun m h => by cases h <;> rfl) hN) (by decide) (by decide) hW (fun b56 V56 hn56 hb56 hk56 hW hx56 => ?_)
  have hz56 := he.1.none hn56
  have he := he.trans (hx56.sub (jsub_of rfl))
  have hb7 := hb7.mono hx56.1
  have hb15 := hb15.mono hx56.1
  have hb24 := hb24.mono hx56.1
  have hb32 := hb32.mono hx56.1
  have hb40 := hb40.mono hx56.1
  have hb48 := hb48.mono hx56.1
  have hq := hk56 _ _ hq
  refine Jc_putF jf_X7_28 jt_X7_8 rfl (fun _ h => by cases h; rfl) dX7_init_58 hq rfl rfl (Nat.le_of_ble_eq_true rfl) (fun _ h => by cases h) hW (fun V58 hq hW hx58 hB58 => ?_)
  have hq : V58 q = some (.inr (5, [.int 0, .ref b7, .ref b15, .ref b24, .ref b32, .int 0, .ref b40, .ref b48, .ref b56, .null, .null, .null, .null, .null, .null, .null, .null, .null, .null, .null, .null, .null, .int 0, .int 0, .int 0, .null, .int 0, .int 0, .int 0, .null, .null, .null, .null, .null])) := hq
  have he := he.trans (hx58.sub (jsub_of rfl))
  have hb7 := hb7.mono hx58.1
  have hb15 := hb15.mono hx58.1
  have hb24 := hb24.mono hx58.1
  have hb32 := hb32.mono hx58.1
  have hb40 := hb40.mono hx58.1
  have hb48 := hb48.mono hx58.1
  have hb56 := hb56.mono hx58.1
  refine J_aload_n dX7_init_61 rfl ?_
  refine J_bipush (v := 60) dX7_init_62 (by decide) ?_
  refine Jc_newa (atype := .int) (t := 21) (B := 60) (x := .inl (fun _ => 0)) jw_ac_int rfl (fun _ h => by cases h) (by decide) dX7_init_64 (by decide) (by decide) (by decide) (fun _ _ => rfl) (fun hN => jok_zI rfl (by decide) (by decide) (fun m h => by cases h <;> rfl) hN) (by decide) (by decide) hW (fun b64 V64 hn64 hb64 hk64 hW hx64 => ?_)
  have hz64 := he.1.none hn64
  have he := he.trans (hx64.sub (jsub_of rfl))
  have hb7 := hb7.mono hx64.1
  have hb15 := hb15.mono hx64.1
  have hb24 := hb24.mono hx64.1
  have hb32 := hb32.mono hx64.1
  have hb40 := hb40.mono hx64.1
  have hb48 := hb48.mono hx64.1
  have hb56 := hb56.mono hx64.1
  have hq := hk64 _ _ hq
  refine Jc_putF jf_X7_31 jt_X7_9 rfl (fun _ h => by cases h; rfl) dX7_init_66 hq rfl rfl (Nat.le_of_ble_eq_true rfl) (fun _ h => by cases h) hW (fun V66 hq hW hx66 hB66 => ?_)
  have hq : V66 q = some (.inr (5, [.int 0, .ref b7, .ref b15, .ref b24, .ref b32, .int 0, .ref b40, .ref b48, .ref b56, .ref b64, .null, .null, .null, .null, .null, .null, .null, .null, .null, .null, .null, .null, .int 0, .int 0, .int 0, .null, .int 0, .int 0, .int 0, .null, .null, .null, .null, .null])) := hq
  have he := he.trans (hx66.sub (jsub_of rfl))
  have hb7 := hb7.mono hx66.1
  have hb15 := hb15.mono hx66.1
  have hb24 := hb24.mono hx66.1
  have hb32 := hb32.mono hx66.1
  have hb40 := hb40.mono hx66.1
  have hb48 := hb48.mono hx66.1
  have hb56 := hb56.mono hx66.1
  have hb64 := hb64.mono hx66.1
  refine J_aload_n dX7_init_69 rfl ?_
  refine J_bipush (v := 60) dX7_init_70 (by decide) ?_
  refine Jc_newa (atype := .int) (t := 22) (B := 60) (x := .inl (fun _ => 0)) jw_ac_int rfl (fun _ h => by cases h) (by decide) dX7_init_72 (by decide) (by decide) (by decide) (fun _ _ => rfl) (fun hN => jok_zI rfl (by decide) (by decide) (fun m h => by cases h <;> rfl) hN) (by decide) (by decide) hW (fun b72 V72 hn72 hb72 hk72 hW hx72 => ?_)
  have hz72 := he.1.none hn72
  have he := he.trans (hx72.sub (jsub_of rfl))
  have hb7 := hb7.mono hx72.1
  have hb15 := hb15.mono hx72.1
  have hb24 := hb24.mono hx72.1
  have hb32 := hb32.mono hx72.1
  have hb40 := hb40.mono hx72.1
  have hb48 := hb48.mono hx72.1
  have hb56 := hb56.mono hx72.1
  have hb64 := hb64.mono hx72.1
  have hq := hk72 _ _ hq
  refine Jc_putF jf_X7_34 jt_X7_10 rfl (fun _ h => by cases h; rfl) dX7_init_74 hq rfl rfl (Nat.le_of_ble_eq_true rfl) (fun _ h => by cases h) hW (fun V74 hq hW hx74 hB74 => ?_)
  have hq : V74 q = some (.inr (5, [.int 0, .ref b7, .ref b15, .ref b24, .ref b32, .int 0, .ref b40, .ref b48, .ref b56, .ref b64, .ref b72, .null, .null, .null, .null, .null, .null, .null, .null, .null, .null, .null, .int 0, .int 0, .int 0, .null, .int 0, .int 0, .int 0, .null, .null, .null, .null, .null])) := hq
  have he := he.trans (hx74.sub (jsub_of rfl))
  have hb7 := hb7.mono hx74.1
  have hb15 := hb15.mono hx74.1
  have hb24 := hb24.mono hx74.1
  have hb32 := hb32.mono hx74.1
  have hb40 := hb40.mono hx74.1
  have hb48 := hb48.mono hx74.1
  have hb56 := hb56.mono hx74.1
  have hb64 := hb64.mono hx74.1
  have hb72 := hb72.mono hx74.1
  refine J_aload_n dX7_init_77 rfl ?_
  refine J_bipush (v := 84) dX7_init_78 (by decide) ?_
  refine Jc_newa (atype := .boolean) (t := 40) (B := 84) (x := .inl (fun _ => 0)) jw_ac_boolean rfl (fun _ h => by cases h) (by decide) dX7_init_80 (by decide) (by decide) (by decide) (fun _ _ => rfl) (fun hN => jok_zI rfl (by decide) (by decide) (fun m h => by cases h <;> rfl) hN) (by decide) (by decide) hW (fun b80 V80 hn80 hb80 hk80 hW hx80 => ?_)
  have hz80 := he.1.none hn80
  have he := he.trans (hx80.sub (jsub_of rfl))
  have hb7 := hb7.mono hx80.1
  have hb15 := hb15.mono hx80.1
  have hb24 := hb24.mono hx80.1
  have hb32 := hb32.mono hx80.1
  have hb40 := hb40.mono hx80.1
  have hb48 := hb48.mono hx80.1
  have hb56 := hb56.mono hx80.1
  have hb64 := hb64.mono hx80.1
  have hb72 := hb72.mono hx80.1
  have hq := hk80 _ _ hq
  refine Jc_putF jf_X7_37 jt_X7_11 rfl (fun _ h => by cases h; rfl) dX7_init_82 hq rfl rfl (Nat.le_of_ble_eq_true rfl) (fun _ h => by cases h) hW (fun V82 hq hW hx82 hB82 => ?_)
  have hq : V82 q = some (.inr (5, [.int 0, .ref b7, .ref b15, .ref b24, .ref b32, .int 0, .ref b40, .ref b48, .ref b56, .ref b64, .ref b72, .ref b80, .null, .null, .null, .null, .null, .null, .null, .null, .null, .null, .int 0, .int 0, .int 0, .null, .int 0, .int 0, .int 0, .null, .null, .null, .null, .null])) := hq
  have he := he.trans (hx82.sub (jsub_of rfl))
  have hb7 := hb7.mono hx82.1
  have hb15 := hb15.mono hx82.1
  have hb24 := hb24.mono hx82.1
  have hb32 := hb32.mono hx82.1
  have hb40 := hb40.mono hx82.1
  have hb48 := hb48.mono hx82.1
  have hb56 := hb56.mono hx82.1
  have hb64 := hb64.mono hx82.1
  have hb72 := hb72.mono hx82.1
  have hb80 := hb80.mono hx82.1
  refine J_aload_n dX7_init_85 rfl ?_
  refine J_bipush (v := 84) dX7_init_86 (by decide) ?_
  refine Jc_newa (atype := .int) (t := 23) (B := 84) (x := .inl (fun _ => 0)) jw_ac_int rfl (fun _ h => by cases h) (by decide) dX7_init_88 (by decide) (by decide) (by decide) (fun _ _ => rfl) (fun hN => jok_zI rfl (by decide) (by decide) (fun m h => by cases h <;> rfl) hN) (by decide) (by decide) hW (fun b88 V88 hn88 hb88 hk88 hW hx88 => ?_)
  have hz88 := he.1.none hn88
  have he := he.trans (hx88.sub (jsub_of rfl))
  have hb7 := hb7.mono hx88.1
  have hb15 := hb15.mono hx88.1
  have hb24 := hb24.mono hx88.1
  have hb32 := hb32.mono hx88.1
  have hb40 := hb40.mono hx88.1
  have hb48 := hb48.mono hx88.1
  have hb56 := hb56.mono hx88.1
  have hb64 := hb64.mono hx88.1
  have hb72 := hb72.mono hx88.1
  have hb80 := hb80.mono hx88.1
  have hq := hk88 _ _ hq
  refine Jc_putF jf_X7_41 jt_X7_12 rfl (fun _ h => by cases h; rfl) dX7_init_90 hq rfl rfl (Nat.le_of_ble_eq_true rfl) (fun _ h => by cases h) hW (fun V90 hq hW hx90 hB90 => ?_)
  have hq : V90 q = some (.inr (5, [.int 0, .ref b7, .ref b15, .ref b24, .ref b32, .int 0, .ref b40, .ref b48, .ref b56, .ref b64, .ref b72, .ref b80, .ref b88, .null, .null, .null, .null, .null, .null, .null, .null, .null, .int 0, .int 0, .int 0, .null, .int 0, .int 0, .int 0, .null, .null, .null, .null, .null])) := hq
  have he := he.trans (hx90.sub (jsub_of rfl))
  have hb7 := hb7.mono hx90.1
  have hb15 := hb15.mono hx90.1
  have hb24 := hb24.mono hx90.1
  have hb32 := hb32.mono hx90.1
  have hb40 := hb40.mono hx90.1
  have hb48 := hb48.mono hx90.1
  have hb56 := hb56.mono hx90.1
  have hb64 := hb64.mono hx90.1
  have hb72 := hb72.mono hx90.1
  have hb80 := hb80.mono hx90.1
  have hb88 := hb88.mono hx90.1
  refine J_aload_n dX7_init_93 rfl ?_
  refine J_bipush (v := 84) dX7_init_94 (by decide) ?_
  refine Jc_newa (atype := .long) (t := 46) (B := 84) (x := .inr (.inl (fun _ => 0))) jw_ac_long rfl (fun _ h => by cases h) (by decide) dX7_init_96 (by decide) (by decide) (by decide) (fun _ _ => rfl) (fun hN => jok_zL rfl (fun m h => by cases h <;> rfl) hN) (by decide) (by decide) hW (fun b96 V96 hn96 hb96 hk96 hW hx96 => ?_)
  have hz96 := he.1.none hn96
  have he := he.trans (hx96.sub (jsub_of rfl))
  have hb7 := hb7.mono hx96.1
  have hb15 := hb15.mono hx96.1
  have hb24 := hb24.mono hx96.1
  have hb32 := hb32.mono hx96.1
  have hb40 := hb40.mono hx96.1
  have hb48 := hb48.mono hx96.1
  have hb56 := hb56.mono hx96.1
  have hb64 := hb64.mono hx96.1
  have hb72 := hb72.mono hx96.1
  have hb80 := hb80.mono hx96.1
  have hb88 := hb88.mono hx96.1
  have hq := hk96 _ _ hq
  refine Jc_putF jf_X7_44 jt_X7_13 rfl (fun _ h => by cases h; rfl) dX7_init_98 hq rfl rfl (Nat.le_of_ble_eq_true rfl) (fun _ h => by cases h) hW (fun V98 hq hW hx98 hB98 => ?_)
  have hq : V98 q = some (.inr (5, [.int 0, .ref b7, .ref b15, .ref b24, .ref b32, .int 0, .ref b40, .ref b48, .ref b56, .ref b64, .ref b72, .ref b80, .ref b88, .ref b96, .null, .null, .null, .null, .null, .null, .null, .null, .int 0, .int 0, .int 0, .null, .int 0, .int 0, .int 0, .null, .null, .null, .null, .null])) := hq
  have he := he.trans (hx98.sub (jsub_of rfl))
  have hb7 := hb7.mono hx98.1
  have hb15 := hb15.mono hx98.1
  have hb24 := hb24.mono hx98.1
  have hb32 := hb32.mono hx98.1
  have hb40 := hb40.mono hx98.1
  have hb48 := hb48.mono hx98.1
  have hb56 := hb56.mono hx98.1
  have hb64 := hb64.mono hx98.1
  have hb72 := hb72.mono hx98.1
  have hb80 := hb80.mono hx98.1
  have hb88 := hb88.mono hx98.1
  have hb96 := hb96.mono hx98.1
  refine J_aload_n dX7_init_101 rfl ?_
  refine J_bipush (v := 84) dX7_init_102 (by decide) ?_
  refine Jc_newa (atype := .int) (t := 24) (B := 84) (x := .inl (fun _ => 0)) jw_ac_int rfl (fun _ h => by cases h) (by decide) dX7_init_104 (by decide) (by decide) (by decide) (fun _ _ => rfl) (fun hN => jok_zI rfl (by decide) (by decide) (fun m h => by cases h <;> rfl) hN) (by decide) (by decide) hW (fun b104 V104 hn104 hb104 hk104 hW hx104 => ?_)
  have hz104 := he.1.none hn104
  have he := he.trans (hx104.sub (jsub_of rfl))
  have hb7 := hb7.mono hx104.1
  have hb15 := hb15.mono hx104.1
  have hb24 := hb24.mono hx104.1
  have hb32 := hb32.mono hx104.1
  have hb40 := hb40.mono hx104.1
  have hb48 := hb48.mono hx104.1
  have hb56 := hb56.mono hx104.1
  have hb64 := hb64.mono hx104.1
  have hb72 := hb72.mono hx104.1
  have hb80 := hb80.mono hx104.1
  have hb88 := hb88.mono hx104.1
  have hb96 := hb96.mono hx104.1
  have hq := hk104 _ _ hq
  refine Jc_putF jf_X7_48 jt_X7_14 rfl (fun _ h => by cases h; rfl) dX7_init_106 hq rfl rfl (Nat.le_of_ble_eq_true rfl) (fun _ h => by cases h) hW (fun V106 hq hW hx106 hB106 => ?_)
  have hq : V106 q = some (.inr (5, [.int 0, .ref b7, .ref b15, .ref b24, .ref b32, .int 0, .ref b40, .ref b48, .ref b56, .ref b64, .ref b72, .ref b80, .ref b88, .ref b96, .ref b104, .null, .null, .null, .null, .null, .null, .null, .int 0, .int 0, .int 0, .null, .int 0, .int 0, .int 0, .null, .null, .null, .null, .null])) := hq
  have he := he.trans (hx106.sub (jsub_of rfl))
  have hb7 := hb7.mono hx106.1
  have hb15 := hb15.mono hx106.1
  have hb24 := hb24.mono hx106.1
  have hb32 := hb32.mono hx106.1
  have hb40 := hb40.mono hx106.1
  have hb48 := hb48.mono hx106.1
  have hb56 := hb56.mono hx106.1
  have hb64 := hb64.mono hx106.1
  have hb72 := hb72.mono hx106.1
  have hb80 := hb80.mono hx106.1
  have hb88 := hb88.mono hx106.1
  have hb96 := hb96.mono hx106.1
  have hb104 := hb104.mono hx106.1
  refine J_aload_n dX7_init_109 rfl ?_
  refine J_bipush (v := 84) dX7_init_110 (by decide) ?_
  refine Jc_newa (atype := .int) (t := 25) (B := 84) (x := .inl (fun _ => 0)) jw_ac_int rfl (fun _ h => by cases h) (by decide) dX7_init_112 (by decide) (by decide) (by decide) (fun _ _ => rfl) (fun hN => jok_zI rfl (by decide) (by decide) (fun m h => by cases h <;> rfl) hN) (by decide) (by decide) hW (fun b112 V112 hn112 hb112 hk112 hW hx112 => ?_)
  have hz112 := he.1.none hn112
  have he := he.trans (hx112.sub (jsub_of rfl))
  have hb7 := hb7.mono hx112.1
  have hb15 := hb15.mono hx112.1
  have hb24 := hb24.mono hx112.1
  have hb32 := hb32.mono hx112.1
  have hb40 := hb40.mono hx112.1
  have hb48 := hb48.mono hx112.1
  have hb56 := hb56.mono hx112.1
  have hb64 := hb64.mono hx112.1
  have hb72 := hb72.mono hx112.1
  have hb80 := hb80.mono hx112.1
  have hb88 := hb88.mono hx112.1
  have hb96 := hb96.mono hx112.1
  have hb104 := hb104.mono hx112.1
  have hq := hk112 _ _ hq
  refine Jc_putF jf_X7_51 jt_X7_15 rfl (fun _ h => by cases h; rfl) dX7_init_114 hq rfl rfl (Nat.le_of_ble_eq_true rfl) (fun _ h => by cases h) hW (fun V114 hq hW hx114 hB114 => ?_)
  have hq : V114 q = some (.inr (5, [.int 0, .ref b7, .ref b15, .ref b24, .ref b32, .int 0, .ref b40, .ref b48, .ref b56, .ref b64, .ref b72, .ref b80, .ref b88, .ref b96, .ref b104, .ref b112, .null, .null, .null, .null, .null, .null, .int 0, .int 0, .int 0, .null, .int 0, .int 0, .int 0, .null, .null, .null, .null, .null])) := hq
  have he := he.trans (hx114.sub (jsub_of rfl))
  have hb7 := hb7.mono hx114.1
  have hb15 := hb15.mono hx114.1
  have hb24 := hb24.mono hx114.1
  have hb32 := hb32.mono hx114.1
  have hb40 := hb40.mono hx114.1
  have hb48 := hb48.mono hx114.1
  have hb56 := hb56.mono hx114.1
  have hb64 := hb64.mono hx114.1
  have hb72 := hb72.mono hx114.1
  have hb80 := hb80.mono hx114.1
  have hb88 := hb88.mono hx114.1
  have hb96 := hb96.mono hx114.1
  have hb104 := hb104.mono hx114.1
  have hb112 := hb112.mono hx114.1
  refine J_aload_n dX7_init_117 rfl ?_
  refine J_ldc jw_k_X7_54 dX7_init_118 ?_
  refine Jc_newa (atype := .boolean) (t := 41) (B := 79507) (x := .inl (fun _ => 0)) jw_ac_boolean rfl (fun _ h => by cases h) (by decide) dX7_init_120 (by decide) (by decide) (by decide) (fun _ _ => rfl) (fun hN => jok_zI rfl (by decide) (by decide) (fun m h => by cases h <;> rfl) hN) (by decide) (by decide) hW (fun b120 V120 hn120 hb120 hk120 hW hx120 => ?_)
  have hz120 := he.1.none hn120
  have he := he.trans (hx120.sub (jsub_of rfl))
  have hb7 := hb7.mono hx120.1
  have hb15 := hb15.mono hx120.1
  have hb24 := hb24.mono hx120.1
  have hb32 := hb32.mono hx120.1
  have hb40 := hb40.mono hx120.1
  have hb48 := hb48.mono hx120.1
  have hb56 := hb56.mono hx120.1
  have hb64 := hb64.mono hx120.1
  have hb72 := hb72.mono hx120.1
  have hb80 := hb80.mono hx120.1
  have hb88 := hb88.mono hx120.1
  have hb96 := hb96.mono hx120.1
  have hb104 := hb104.mono hx120.1
  have hb112 := hb112.mono hx120.1
  have hq := hk120 _ _ hq
  refine Jc_putF jf_X7_55 jt_X7_16 rfl (fun _ h => by cases h; rfl) dX7_init_122 hq rfl rfl (Nat.le_of_ble_eq_true rfl) (fun _ h => by cases h) hW (fun V122 hq hW hx122 hB122 => ?_)
  have hq : V122 q = some (.inr (5, [.int 0, .ref b7, .ref b15, .ref b24, .ref b32, .int 0, .ref b40, .ref b48, .ref b56, .ref b64, .ref b72, .ref b80, .ref b88, .ref b96, .ref b104, .ref b112, .ref b120, .null, .null, .null, .null, .null, .int 0, .int 0, .int 0, .null, .int 0, .int 0, .int 0, .null, .null, .null, .null, .null])) := hq
  have he := he.trans (hx122.sub (jsub_of rfl))
  have hb7 := hb7.mono hx122.1
  have hb15 := hb15.mono hx122.1
  have hb24 := hb24.mono hx122.1
  have hb32 := hb32.mono hx122.1
  have hb40 := hb40.mono hx122.1
  have hb48 := hb48.mono hx122.1
  have hb56 := hb56.mono hx122.1
  have hb64 := hb64.mono hx122.1
  have hb72 := hb72.mono hx122.1
  have hb80 := hb80.mono hx122.1
  have hb88 := hb88.mono hx122.1
  have hb96 := hb96.mono hx122.1
  have hb104 := hb104.mono hx122.1
  have hb112 := hb112.mono hx122.1
  have hb120 := hb120.mono hx122.1
  refine J_aload_n dX7_init_125 rfl ?_
  refine J_bipush (v := 22) dX7_init_126 (by decide) ?_
  refine Jc_newa (atype := .int) (t := 26) (B := 22) (x := .inl (fun _ => 0)) jw_ac_int rfl (fun _ h => by cases h) (by decide) dX7_init_128 (by decide) (by decide) (by decide) (fun _ _ => rfl) (fun hN => jok_zI rfl (by decide) (by decide) (fun m h => by cases h <;> rfl) hN) (by decide) (by decide) hW (fun b128 V128 hn128 hb128 hk128 hW hx128 => ?_)
  have hz128 := he.1.none hn128
  have he := he.trans (hx128.sub (jsub_of rfl))
  have hb7 := hb7.mono hx128.1
  have hb15 := hb15.mono hx128.1
  have hb24 := hb24.mono hx128.1
  have hb32 := hb32.mono hx128.1
  have hb40 := hb40.mono hx128.1
  have hb48 := hb48.mono hx128.1
  have hb56 := hb56.mono hx128.1
  have hb64 := hb64.mono hx128.1
  have hb72 := hb72.mono hx128.1
  have hb80 := hb80.mono hx128.1
  have hb88 := hb88.mono hx128.1
  have hb96 := hb96.mono hx128.1
  have hb104 := hb104.mono hx128.1
  have hb112 := hb112.mono hx128.1
  have hb120 := hb120.mono hx128.1
  have hq := hk128 _ _ hq
  refine Jc_putF jf_X7_58 jt_X7_17 rfl (fun _ h => by cases h; rfl) dX7_init_130 hq rfl rfl (Nat.le_of_ble_eq_true rfl) (fun _ h => by cases h) hW (fun V130 hq hW hx130 hB130 => ?_)
  have hq : V130 q = some (.inr (5, [.int 0, .ref b7, .ref b15, .ref b24, .ref b32, .int 0, .ref b40, .ref b48, .ref b56, .ref b64, .ref b72, .ref b80, .ref b88, .ref b96, .ref b104, .ref b112, .ref b120, .ref b128, .null, .null, .null, .null, .int 0, .int 0, .int 0, .null, .int 0, .int 0, .int 0, .null, .null, .null, .null, .null])) := hq
  have he := he.trans (hx130.sub (jsub_of rfl))
  have hb7 := hb7.mono hx130.1
  have hb15 := hb15.mono hx130.1
  have hb24 := hb24.mono hx130.1
  have hb32 := hb32.mono hx130.1
  have hb40 := hb40.mono hx130.1
  have hb48 := hb48.mono hx130.1
  have hb56 := hb56.mono hx130.1
  have hb64 := hb64.mono hx130.1
  have hb72 := hb72.mono hx130.1
  have hb80 := hb80.mono hx130.1
  have hb88 := hb88.mono hx130.1
  have hb96 := hb96.mono hx130.1
  have hb104 := hb104.mono hx130.1
  have hb112 := hb112.mono hx130.1
  have hb120 := hb120.mono hx130.1
  have hb128 := hb128.mono hx130.1
  refine J_aload_n dX7_init_133 rfl ?_
  refine J_bipush (v := 32) dX7_init_134 (by decide) ?_
  refine Jc_newa (atype := .int) (t := 27) (B := 32) (x := .inl (fun _ => 0)) jw_ac_int rfl (fun _ h => by cases h) (by decide) dX7_init_136 (by decide) (by decide) (by decide) (fun _ _ => rfl) (fun hN => jok_zI rfl (by decide) (by decide) (fun m h => by cases h <;> rfl) hN) (by decide) (by decide) hW (fun b136 V136 hn136 hb136 hk136 hW hx136 => ?_)
  have hz136 := he.1.none hn136
  have he := he.trans (hx136.sub (jsub_of rfl))
  have hb7 := hb7.mono hx136.1
  have hb15 := hb15.mono hx136.1
  have hb24 := hb24.mono hx136.1
  have hb32 := hb32.mono hx136.1
  have hb40 := hb40.mono hx136.1
  have hb48 := hb48.mono hx136.1
  have hb56 := hb56.mono hx136.1
  have hb64 := hb64.mono hx136.1
  have hb72 := hb72.mono hx136.1
  have hb80 := hb80.mono hx136.1
  have hb88 := hb88.mono hx136.1
  have hb96 := hb96.mono hx136.1
  have hb104 := hb104.mono hx136.1
  have hb112 := hb112.mono hx136.1
  have hb120 := hb120.mono hx136.1
  have hb128 := hb128.mono hx136.1
  have hq := hk136 _ _ hq
  refine Jc_putF jf_X7_61 jt_X7_18 rfl (fun _ h => by cases h; rfl) dX7_init_138 hq rfl rfl (Nat.le_of_ble_eq_true rfl) (fun _ h => by cases h) hW (fun V138 hq hW hx138 hB138 => ?_)
  have hq : V138 q = some (.inr (5, [.int 0, .ref b7, .ref b15, .ref b24, .ref b32, .int 0, .ref b40, .ref b48, .ref b56, .ref b64, .ref b72, .ref b80, .ref b88, .ref b96, .ref b104, .ref b112, .ref b120, .ref b128, .ref b136, .null, .null, .null, .int 0, .int 0, .int 0, .null, .int 0, .int 0, .int 0, .null, .null, .null, .null, .null])) := hq
  have he := he.trans (hx138.sub (jsub_of rfl))
  have hb7 := hb7.mono hx138.1
  have hb15 := hb15.mono hx138.1
  have hb24 := hb24.mono hx138.1
  have hb32 := hb32.mono hx138.1
  have hb40 := hb40.mono hx138.1
  have hb48 := hb48.mono hx138.1
  have hb56 := hb56.mono hx138.1
  have hb64 := hb64.mono hx138.1
  have hb72 := hb72.mono hx138.1
  have hb80 := hb80.mono hx138.1
  have hb88 := hb88.mono hx138.1
  have hb96 := hb96.mono hx138.1
  have hb104 := hb104.mono hx138.1
  have hb112 := hb112.mono hx138.1
  have hb120 := hb120.mono hx138.1
  have hb128 := hb128.mono hx138.1
  have hb136 := hb136.mono hx138.1
  refine J_aload_n dX7_init_141 rfl ?_
  refine J_bipush (v := 28) dX7_init_142 (by decide) ?_
  refine Jc_newa (atype := .int) (t := 28) (B := 28) (x := .inl (fun _ => 0)) jw_ac_int rfl (fun _ h => by cases h) (by decide) dX7_init_144 (by decide) (by decide) (by decide) (fun _ _ => rfl) (fun hN => jok_zI rfl (by decide) (by decide) (fun m h => by cases h <;> rfl) hN) (by decide) (by decide) hW (fun b144 V144 hn144 hb144 hk144 hW hx144 => ?_)
  have hz144 := he.1.none hn144
  have he := he.trans (hx144.sub (jsub_of rfl))
  have hb7 := hb7.mono hx144.1
  have hb15 := hb15.mono hx144.1
  have hb24 := hb24.mono hx144.1
  have hb32 := hb32.mono hx144.1
  have hb40 := hb40.mono hx144.1
  have hb48 := hb48.mono hx144.1
  have hb56 := hb56.mono hx144.1
  have hb64 := hb64.mono hx144.1
  have hb72 := hb72.mono hx144.1
  have hb80 := hb80.mono hx144.1
  have hb88 := hb88.mono hx144.1
  have hb96 := hb96.mono hx144.1
  have hb104 := hb104.mono hx144.1
  have hb112 := hb112.mono hx144.1
  have hb120 := hb120.mono hx144.1
  have hb128 := hb128.mono hx144.1
  have hb136 := hb136.mono hx144.1
  have hq := hk144 _ _ hq
  refine Jc_putF jf_X7_64 jt_X7_19 rfl (fun _ h => by cases h; rfl) dX7_init_146 hq rfl rfl (Nat.le_of_ble_eq_true rfl) (fun _ h => by cases h) hW (fun V146 hq hW hx146 hB146 => ?_)
  have hq : V146 q = some (.inr (5, [.int 0, .ref b7, .ref b15, .ref b24, .ref b32, .int 0, .ref b40, .ref b48, .ref b56, .ref b64, .ref b72, .ref b80, .ref b88, .ref b96, .ref b104, .ref b112, .ref b120, .ref b128, .ref b136, .ref b144, .null, .null, .int 0, .int 0, .int 0, .null, .int 0, .int 0, .int 0, .null, .null, .null, .null, .null])) := hq
  have he := he.trans (hx146.sub (jsub_of rfl))
  have hb7 := hb7.mono hx146.1
  have hb15 := hb15.mono hx146.1
  have hb24 := hb24.mono hx146.1
  have hb32 := hb32.mono hx146.1
  have hb40 := hb40.mono hx146.1
  have hb48 := hb48.mono hx146.1
  have hb56 := hb56.mono hx146.1
  have hb64 := hb64.mono hx146.1
  have hb72 := hb72.mono hx146.1
  have hb80 := hb80.mono hx146.1
  have hb88 := hb88.mono hx146.1
  have hb96 := hb96.mono hx146.1
  have hb104 := hb104.mono hx146.1
  have hb112 := hb112.mono hx146.1
  have hb120 := hb120.mono hx146.1
  have hb128 := hb128.mono hx146.1
  have hb136 := hb136.mono hx146.1
  have hb144 := hb144.mono hx146.1
  refine J_aload_n dX7_init_149 rfl ?_
  refine J_sipush (v := 10000) dX7_init_150 (by decide) ?_
  refine Jc_newa (atype := .boolean) (t := 42) (B := 10000) (x := .inl (fun _ => 0)) jw_ac_boolean rfl (fun _ h => by cases h) (by decide) dX7_init_153 (by decide) (by decide) (by decide) (fun _ _ => rfl) (fun hN => jok_zI rfl (by decide) (by decide) (fun m h => by cases h <;> rfl) hN) (by decide) (by decide) hW (fun b153 V153 hn153 hb153 hk153 hW hx153 => ?_)
  have hz153 := he.1.none hn153
  have he := he.trans (hx153.sub (jsub_of rfl))
  have hb7 := hb7.mono hx153.1
  have hb15 := hb15.mono hx153.1
  have hb24 := hb24.mono hx153.1
  have hb32 := hb32.mono hx153.1
  have hb40 := hb40.mono hx153.1
  have hb48 := hb48.mono hx153.1
  have hb56 := hb56.mono hx153.1
  have hb64 := hb64.mono hx153.1
  have hb72 := hb72.mono hx153.1
  have hb80 := hb80.mono hx153.1
  have hb88 := hb88.mono hx153.1
  have hb96 := hb96.mono hx153.1
  have hb104 := hb104.mono hx153.1
  have hb112 := hb112.mono hx153.1
  have hb120 := hb120.mono hx153.1
  have hb128 := hb128.mono hx153.1
  have hb136 := hb136.mono hx153.1
  have hb144 := hb144.mono hx153.1
  have hq := hk153 _ _ hq
  refine Jc_putF jf_X7_67 jt_X7_20 rfl (fun _ h => by cases h; rfl) dX7_init_155 hq rfl rfl (Nat.le_of_ble_eq_true rfl) (fun _ h => by cases h) hW (fun V155 hq hW hx155 hB155 => ?_)
  have hq : V155 q = some (.inr (5, [.int 0, .ref b7, .ref b15, .ref b24, .ref b32, .int 0, .ref b40, .ref b48, .ref b56, .ref b64, .ref b72, .ref b80, .ref b88, .ref b96, .ref b104, .ref b112, .ref b120, .ref b128, .ref b136, .ref b144, .ref b153, .null, .int 0, .int 0, .int 0, .null, .int 0, .int 0, .int 0, .null, .null, .null, .null, .null])) := hq
  have he := he.trans (hx155.sub (jsub_of rfl))
  have hb7 := hb7.mono hx155.1
  have hb15 := hb15.mono hx155.1
  have hb24 := hb24.mono hx155.1
  have hb32 := hb32.mono hx155.1
  have hb40 := hb40.mono hx155.1
  have hb48 := hb48.mono hx155.1
  have hb56 := hb56.mono hx155.1
  have hb64 := hb64.mono hx155.1
  have hb72 := hb72.mono hx155.1
  have hb80 := hb80.mono hx155.1
  have hb88 := hb88.mono hx155.1
  have hb96 := hb96.mono hx155.1
  have hb104 := hb104.mono hx155.1
  have hb112 := hb112.mono hx155.1
  have hb120 := hb120.mono hx155.1
  have hb128 := hb128.mono hx155.1
  have hb136 := hb136.mono hx155.1
  have hb144 := hb144.mono hx155.1
  have hb153 := hb153.mono hx155.1
  refine J_aload_n dX7_init_158 rfl ?_
  refine J_sipush (v := 10000) dX7_init_159 (by decide) ?_
  refine Jc_newa (atype := .int) (t := 29) (B := 10000) (x := .inl (fun _ => 0)) jw_ac_int rfl (fun _ h => by cases h) (by decide) dX7_init_162 (by decide) (by decide) (by decide) (fun _ _ => rfl) (fun hN => jok_zI rfl (by decide) (by decide) (fun m h => by cases h <;> rfl) hN) (by decide) (by decide) hW (fun b162 V162 hn162 hb162 hk162 hW hx162 => ?_)
  have hz162 := he.1.none hn162
  have he := he.trans (hx162.sub (jsub_of rfl))
  have hb7 := hb7.mono hx162.1
  have hb15 := hb15.mono hx162.1
  have hb24 := hb24.mono hx162.1
  have hb32 := hb32.mono hx162.1
  have hb40 := hb40.mono hx162.1
  have hb48 := hb48.mono hx162.1
  have hb56 := hb56.mono hx162.1
  have hb64 := hb64.mono hx162.1
  have hb72 := hb72.mono hx162.1
  have hb80 := hb80.mono hx162.1
  have hb88 := hb88.mono hx162.1
  have hb96 := hb96.mono hx162.1
  have hb104 := hb104.mono hx162.1
  have hb112 := hb112.mono hx162.1
  have hb120 := hb120.mono hx162.1
  have hb128 := hb128.mono hx162.1
  have hb136 := hb136.mono hx162.1
  have hb144 := hb144.mono hx162.1
  have hb153 := hb153.mono hx162.1
  have hq := hk162 _ _ hq
  refine Jc_putF jf_X7_70 jt_X7_21 rfl (fun _ h => by cases h; rfl) dX7_init_164 hq rfl rfl (Nat.le_of_ble_eq_true rfl) (fun _ h => by cases h) hW (fun V164 hq hW hx164 hB164 => ?_)
  have hq : V164 q = some (.inr (5, [.int 0, .ref b7, .ref b15, .ref b24, .ref b32, .int 0, .ref b40, .ref b48, .ref b56, .ref b64, .ref b72, .ref b80, .ref b88, .ref b96, .ref b104, .ref b112, .ref b120, .ref b128, .ref b136, .ref b144, .ref b153, .ref b162, .int 0, .int 0, .int 0, .null, .int 0, .int 0, .int 0, .null, .null, .null, .null, .null])) := hq
  have he := he.trans (hx164.sub (jsub_of rfl))
  have hb7 := hb7.mono hx164.1
  have hb15 := hb15.mono hx164.1
  have hb24 := hb24.mono hx164.1
  have hb32 := hb32.mono hx164.1
  have hb40 := hb40.mono hx164.1
  have hb48 := hb48.mono hx164.1
  have hb56 := hb56.mono hx164.1
  have hb64 := hb64.mono hx164.1
  have hb72 := hb72.mono hx164.1
  have hb80 := hb80.mono hx164.1
  have hb88 := hb88.mono hx164.1
  have hb96 := hb96.mono hx164.1
  have hb104 := hb104.mono hx164.1
  have hb112 := hb112.mono hx164.1
  have hb120 := hb120.mono hx164.1
  have hb128 := hb128.mono hx164.1
  have hb136 := hb136.mono hx164.1
  have hb144 := hb144.mono hx164.1
  have hb153 := hb153.mono hx164.1
  have hb162 := hb162.mono hx164.1
  refine J_aload_n dX7_init_167 rfl ?_
  refine J_iconst (v := 2) dX7_init_168 (by decide) ?_
  refine Jc_put jf_X7_73 jt_X7_23 dX7_init_169 hq rfl rfl (Nat.le_of_ble_eq_true rfl) (fun _ h => by cases h) hW (fun V169 hq hW hx169 hB169 => ?_)
  have hq : V169 q = some (.inr (5, [.int 0, .ref b7, .ref b15, .ref b24, .ref b32, .int 0, .ref b40, .ref b48, .ref b56, .ref b64, .ref b72, .ref b80, .ref b88, .ref b96, .ref b104, .ref b112, .ref b120, .ref b128, .ref b136, .ref b144, .ref b153, .ref b162, .int 0, .int 2, .int 0, .null, .int 0, .int 0, .int 0, .null, .null, .null, .null, .null])) := hq
  have he := he.trans (hx169.sub (jsub_of rfl))
  have hb7 := hb7.mono hx169.1
  have hb15 := hb15.mono hx169.1
  have hb24 := hb24.mono hx169.1
  have hb32 := hb32.mono hx169.1
  have hb40 := hb40.mono hx169.1
  have hb48 := hb48.mono hx169.1
  have hb56 := hb56.mono hx169.1
  have hb64 := hb64.mono hx169.1
  have hb72 := hb72.mono hx169.1
  have hb80 := hb80.mono hx169.1
  have hb88 := hb88.mono hx169.1
  have hb96 := hb96.mono hx169.1
  have hb104 := hb104.mono hx169.1
  have hb112 := hb112.mono hx169.1
  have hb120 := hb120.mono hx169.1
  have hb128 := hb128.mono hx169.1
  have hb136 := hb136.mono hx169.1
  have hb144 := hb144.mono hx169.1
  have hb153 := hb153.mono hx169.1
  have hb162 := hb162.mono hx169.1
  refine J_aload_n dX7_init_172 rfl ?_
  refine J_iconst (v := 2) dX7_init_173 (by decide) ?_
  refine Jc_put jf_X7_77 jt_X7_24 dX7_init_174 hq rfl rfl (Nat.le_of_ble_eq_true rfl) (fun _ h => by cases h) hW (fun V174 hq hW hx174 hB174 => ?_)
  have hq : V174 q = some (.inr (5, [.int 0, .ref b7, .ref b15, .ref b24, .ref b32, .int 0, .ref b40, .ref b48, .ref b56, .ref b64, .ref b72, .ref b80, .ref b88, .ref b96, .ref b104, .ref b112, .ref b120, .ref b128, .ref b136, .ref b144, .ref b153, .ref b162, .int 0, .int 2, .int 2, .null, .int 0, .int 0, .int 0, .null, .null, .null, .null, .null])) := hq
  have he := he.trans (hx174.sub (jsub_of rfl))
  have hb7 := hb7.mono hx174.1
  have hb15 := hb15.mono hx174.1
  have hb24 := hb24.mono hx174.1
  have hb32 := hb32.mono hx174.1
  have hb40 := hb40.mono hx174.1
  have hb48 := hb48.mono hx174.1
  have hb56 := hb56.mono hx174.1
  have hb64 := hb64.mono hx174.1
  have hb72 := hb72.mono hx174.1
  have hb80 := hb80.mono hx174.1
  have hb88 := hb88.mono hx174.1
  have hb96 := hb96.mono hx174.1
  have hb104 := hb104.mono hx174.1
  have hb112 := hb112.mono hx174.1
  have hb120 := hb120.mono hx174.1
  have hb128 := hb128.mono hx174.1
  have hb136 := hb136.mono hx174.1
  have hb144 := hb144.mono hx174.1
  have hb153 := hb153.mono hx174.1
  have hb162 := hb162.mono hx174.1
  refine J_aload_n dX7_init_177 rfl ?_
  refine J_bipush (v := 36) dX7_init_178 (by decide) ?_
  refine Jc_newax (atype := .boolean) (t := 43) (B := 36) (x := .inl (fun _ => 0)) jw_ac_boolean rfl (fun _ h => by cases h) (by decide) dX7_init_180 (by decide) (by decide) (by decide) (fun _ _ => rfl) (fun hN => jok_zI rfl (by decide) (by decide) (fun m h => by cases h <;> rfl) hN) (by decide) (by decide) hW (fun b180 V180 hn180 hb180 hk180 hW hx180 hA180 => ?_)
  have hz180 := he.1.none hn180
  have he := he.trans (hx180.sub (jsub_of rfl))
  have hb7 := hb7.mono hx180.1
  have hb15 := hb15.mono hx180.1
  have hb24 := hb24.mono hx180.1
  have hb32 := hb32.mono hx180.1
  have hb40 := hb40.mono hx180.1
  have hb48 := hb48.mono hx180.1
  have hb56 := hb56.mono hx180.1
  have hb64 := hb64.mono hx180.1
  have hb72 := hb72.mono hx180.1
  have hb80 := hb80.mono hx180.1
  have hb88 := hb88.mono hx180.1
  have hb96 := hb96.mono hx180.1
  have hb104 := hb104.mono hx180.1
  have hb112 := hb112.mono hx180.1
  have hb120 := hb120.mono hx180.1
  have hb128 := hb128.mono hx180.1
  have hb136 := hb136.mono hx180.1
  have hb144 := hb144.mono hx180.1
  have hb153 := hb153.mono hx180.1
  have hb162 := hb162.mono hx180.1
  have hq := hk180 _ _ hq
  have hA180 : V180 b180 = some (.inl (43, 36, .inl (fun _ => 0))) := hA180
  refine Jc_putF jf_X7_80 jt_X7_25 rfl (fun _ h => by cases h; rfl) dX7_init_182 hq rfl rfl (Nat.le_of_ble_eq_true rfl) (fun _ h => by cases h) hW (fun V182 hq hW hx182 hB182 => ?_)
  have hq : V182 q = some (.inr (5, [.int 0, .ref b7, .ref b15, .ref b24, .ref b32, .int 0, .ref b40, .ref b48, .ref b56, .ref b64, .ref b72, .ref b80, .ref b88, .ref b96, .ref b104, .ref b112, .ref b120, .ref b128, .ref b136, .ref b144, .ref b153, .ref b162, .int 0, .int 2, .int 2, .ref b180, .int 0, .int 0, .int 0, .null, .null, .null, .null, .null])) := hq
  have he := he.trans (hx182.sub (jsub_of rfl))
  have hb7 := hb7.mono hx182.1
  have hb15 := hb15.mono hx182.1
  have hb24 := hb24.mono hx182.1
  have hb32 := hb32.mono hx182.1
  have hb40 := hb40.mono hx182.1
  have hb48 := hb48.mono hx182.1
  have hb56 := hb56.mono hx182.1
  have hb64 := hb64.mono hx182.1
  have hb72 := hb72.mono hx182.1
  have hb80 := hb80.mono hx182.1
  have hb88 := hb88.mono hx182.1
  have hb96 := hb96.mono hx182.1
  have hb104 := hb104.mono hx182.1
  have hb112 := hb112.mono hx182.1
  have hb120 := hb120.mono hx182.1
  have hb128 := hb128.mono hx182.1
  have hb136 := hb136.mono hx182.1
  have hb144 := hb144.mono hx182.1
  have hb153 := hb153.mono hx182.1
  have hb162 := hb162.mono hx182.1
  have hb180 := hb180.mono hx182.1
  have hA180 := hx182.2 _ _ hA180 (jnot_of rfl)
  refine J_aload_n dX7_init_185 rfl ?_
  refine J_bipush (v := 36) dX7_init_186 (by decide) ?_
  refine Jc_newa (atype := .int) (t := 30) (B := 36) (x := .inl (fun _ => 0)) jw_ac_int rfl (fun _ h => by cases h) (by decide) dX7_init_188 (by decide) (by decide) (by decide) (fun _ _ => rfl) (fun hN => jok_zI rfl (by decide) (by decide) (fun m h => by cases h <;> rfl) hN) (by decide) (by decide) hW (fun b188 V188 hn188 hb188 hk188 hW hx188 => ?_)
  have hz188 := he.1.none hn188
  have he := he.trans (hx188.sub (jsub_of rfl))
  have hb7 := hb7.mono hx188.1
  have hb15 := hb15.mono hx188.1
  have hb24 := hb24.mono hx188.1
  have hb32 := hb32.mono hx188.1
  have hb40 := hb40.mono hx188.1
  have hb48 := hb48.mono hx188.1
  have hb56 := hb56.mono hx188.1
  have hb64 := hb64.mono hx188.1
  have hb72 := hb72.mono hx188.1
  have hb80 := hb80.mono hx188.1
  have hb88 := hb88.mono hx188.1
  have hb96 := hb96.mono hx188.1
  have hb104 := hb104.mono hx188.1
  have hb112 := hb112.mono hx188.1
  have hb120 := hb120.mono hx188.1
  have hb128 := hb128.mono hx188.1
  have hb136 := hb136.mono hx188.1
  have hb144 := hb144.mono hx188.1
  have hb153 := hb153.mono hx188.1
  have hb162 := hb162.mono hx188.1
  have hb180 := hb180.mono hx188.1
  have hq := hk188 _ _ hq
  have hA180 := hk188 _ _ hA180
  refine Jc_putF jf_X7_83 jt_X7_29 rfl (fun _ h => by cases h; rfl) dX7_init_190 hq rfl rfl (Nat.le_of_ble_eq_true rfl) (fun _ h => by cases h) hW (fun V190 hq hW hx190 hB190 => ?_)
  have hq : V190 q = some (.inr (5, [.int 0, .ref b7, .ref b15, .ref b24, .ref b32, .int 0, .ref b40, .ref b48, .ref b56, .ref b64, .ref b72, .ref b80, .ref b88, .ref b96, .ref b104, .ref b112, .ref b120, .ref b128, .ref b136, .ref b144, .ref b153, .ref b162, .int 0, .int 2, .int 2, .ref b180, .int 0, .int 0, .int 0, .ref b188, .null, .null, .null, .null])) := hq
  have he := he.trans (hx190.sub (jsub_of rfl))
  have hb7 := hb7.mono hx190.1
  have hb15 := hb15.mono hx190.1
  have hb24 := hb24.mono hx190.1
  have hb32 := hb32.mono hx190.1
  have hb40 := hb40.mono hx190.1
  have hb48 := hb48.mono hx190.1
  have hb56 := hb56.mono hx190.1
  have hb64 := hb64.mono hx190.1
  have hb72 := hb72.mono hx190.1
  have hb80 := hb80.mono hx190.1
  have hb88 := hb88.mono hx190.1
  have hb96 := hb96.mono hx190.1
  have hb104 := hb104.mono hx190.1
  have hb112 := hb112.mono hx190.1
  have hb120 := hb120.mono hx190.1
  have hb128 := hb128.mono hx190.1
  have hb136 := hb136.mono hx190.1
  have hb144 := hb144.mono hx190.1
  have hb153 := hb153.mono hx190.1
  have hb162 := hb162.mono hx190.1
  have hb180 := hb180.mono hx190.1
  have hb188 := hb188.mono hx190.1
  have hA180 := hx190.2 _ _ hA180 (jnot_of rfl)
  refine J_aload_n dX7_init_193 rfl ?_
  refine J_bipush (v := 36) dX7_init_194 (by decide) ?_
  refine Jc_newa (atype := .boolean) (t := 44) (B := 36) (x := .inl (fun _ => 0)) jw_ac_boolean rfl (fun _ h => by cases h) (by decide) dX7_init_196 (by decide) (by decide) (by decide) (fun _ _ => rfl) (fun hN => jok_zI rfl (by decide) (by decide) (fun m h => by cases h <;> rfl) hN) (by decide) (by decide) hW (fun b196 V196 hn196 hb196 hk196 hW hx196 => ?_)
  have hz196 := he.1.none hn196
  have he := he.trans (hx196.sub (jsub_of rfl))
  have hb7 := hb7.mono hx196.1
  have hb15 := hb15.mono hx196.1
  have hb24 := hb24.mono hx196.1
  have hb32 := hb32.mono hx196.1
  have hb40 := hb40.mono hx196.1
  have hb48 := hb48.mono hx196.1
  have hb56 := hb56.mono hx196.1
  have hb64 := hb64.mono hx196.1
  have hb72 := hb72.mono hx196.1
  have hb80 := hb80.mono hx196.1
  have hb88 := hb88.mono hx196.1
  have hb96 := hb96.mono hx196.1
  have hb104 := hb104.mono hx196.1
  have hb112 := hb112.mono hx196.1
  have hb120 := hb120.mono hx196.1
  have hb128 := hb128.mono hx196.1
  have hb136 := hb136.mono hx196.1
  have hb144 := hb144.mono hx196.1
  have hb153 := hb153.mono hx196.1
  have hb162 := hb162.mono hx196.1
  have hb180 := hb180.mono hx196.1
  have hb188 := hb188.mono hx196.1
  have hq := hk196 _ _ hq
  have hA180 := hk196 _ _ hA180
  refine Jc_putF jf_X7_86 jt_X7_30 rfl (fun _ h => by cases h; rfl) dX7_init_198 hq rfl rfl (Nat.le_of_ble_eq_true rfl) (fun _ h => by cases h) hW (fun V198 hq hW hx198 hB198 => ?_)
  have hq : V198 q = some (.inr (5, [.int 0, .ref b7, .ref b15, .ref b24, .ref b32, .int 0, .ref b40, .ref b48, .ref b56, .ref b64, .ref b72, .ref b80, .ref b88, .ref b96, .ref b104, .ref b112, .ref b120, .ref b128, .ref b136, .ref b144, .ref b153, .ref b162, .int 0, .int 2, .int 2, .ref b180, .int 0, .int 0, .int 0, .ref b188, .ref b196, .null, .null, .null])) := hq
  have he := he.trans (hx198.sub (jsub_of rfl))
  have hb7 := hb7.mono hx198.1
  have hb15 := hb15.mono hx198.1
  have hb24 := hb24.mono hx198.1
  have hb32 := hb32.mono hx198.1
  have hb40 := hb40.mono hx198.1
  have hb48 := hb48.mono hx198.1
  have hb56 := hb56.mono hx198.1
  have hb64 := hb64.mono hx198.1
  have hb72 := hb72.mono hx198.1
  have hb80 := hb80.mono hx198.1
  have hb88 := hb88.mono hx198.1
  have hb96 := hb96.mono hx198.1
  have hb104 := hb104.mono hx198.1
  have hb112 := hb112.mono hx198.1
  have hb120 := hb120.mono hx198.1
  have hb128 := hb128.mono hx198.1
  have hb136 := hb136.mono hx198.1
  have hb144 := hb144.mono hx198.1
  have hb153 := hb153.mono hx198.1
  have hb162 := hb162.mono hx198.1
  have hb180 := hb180.mono hx198.1
  have hb188 := hb188.mono hx198.1
  have hb196 := hb196.mono hx198.1
  have hA180 := hx198.2 _ _ hA180 (jnot_of rfl)
  refine J_aload_n dX7_init_201 rfl ?_
  refine J_bipush (v := 37) dX7_init_202 (by decide) ?_
  refine Jc_newa (atype := .int) (t := 31) (B := 37) (x := .inl (fun _ => 0)) jw_ac_int rfl (fun _ h => by cases h) (by decide) dX7_init_204 (by decide) (by decide) (by decide) (fun _ _ => rfl) (fun hN => jok_zI rfl (by decide) (by decide) (fun m h => by cases h <;> rfl) hN) (by decide) (by decide) hW (fun b204 V204 hn204 hb204 hk204 hW hx204 => ?_)
  have hz204 := he.1.none hn204
  have he := he.trans (hx204.sub (jsub_of rfl))
  have hb7 := hb7.mono hx204.1
  have hb15 := hb15.mono hx204.1
  have hb24 := hb24.mono hx204.1
  have hb32 := hb32.mono hx204.1
  have hb40 := hb40.mono hx204.1
  have hb48 := hb48.mono hx204.1
  have hb56 := hb56.mono hx204.1
  have hb64 := hb64.mono hx204.1
  have hb72 := hb72.mono hx204.1
  have hb80 := hb80.mono hx204.1
  have hb88 := hb88.mono hx204.1
  have hb96 := hb96.mono hx204.1
  have hb104 := hb104.mono hx204.1
  have hb112 := hb112.mono hx204.1
  have hb120 := hb120.mono hx204.1
  have hb128 := hb128.mono hx204.1
  have hb136 := hb136.mono hx204.1
  have hb144 := hb144.mono hx204.1
  have hb153 := hb153.mono hx204.1
  have hb162 := hb162.mono hx204.1
  have hb180 := hb180.mono hx204.1
  have hb188 := hb188.mono hx204.1
  have hb196 := hb196.mono hx204.1
  have hq := hk204 _ _ hq
  have hA180 := hk204 _ _ hA180
  refine Jc_putF jf_X7_89 jt_X7_31 rfl (fun _ h => by cases h; rfl) dX7_init_206 hq rfl rfl (Nat.le_of_ble_eq_true rfl) (fun _ h => by cases h) hW (fun V206 hq hW hx206 hB206 => ?_)
  have hq : V206 q = some (.inr (5, [.int 0, .ref b7, .ref b15, .ref b24, .ref b32, .int 0, .ref b40, .ref b48, .ref b56, .ref b64, .ref b72, .ref b80, .ref b88, .ref b96, .ref b104, .ref b112, .ref b120, .ref b128, .ref b136, .ref b144, .ref b153, .ref b162, .int 0, .int 2, .int 2, .ref b180, .int 0, .int 0, .int 0, .ref b188, .ref b196, .ref b204, .null, .null])) := hq
  have he := he.trans (hx206.sub (jsub_of rfl))
  have hb7 := hb7.mono hx206.1
  have hb15 := hb15.mono hx206.1
  have hb24 := hb24.mono hx206.1
  have hb32 := hb32.mono hx206.1
  have hb40 := hb40.mono hx206.1
  have hb48 := hb48.mono hx206.1
  have hb56 := hb56.mono hx206.1
  have hb64 := hb64.mono hx206.1
  have hb72 := hb72.mono hx206.1
  have hb80 := hb80.mono hx206.1
  have hb88 := hb88.mono hx206.1
  have hb96 := hb96.mono hx206.1
  have hb104 := hb104.mono hx206.1
  have hb112 := hb112.mono hx206.1
  have hb120 := hb120.mono hx206.1
  have hb128 := hb128.mono hx206.1
  have hb136 := hb136.mono hx206.1
  have hb144 := hb144.mono hx206.1
  have hb153 := hb153.mono hx206.1
  have hb162 := hb162.mono hx206.1
  have hb180 := hb180.mono hx206.1
  have hb188 := hb188.mono hx206.1
  have hb196 := hb196.mono hx206.1
  have hb204 := hb204.mono hx206.1
  have hA180 := hx206.2 _ _ hA180 (jnot_of rfl)
  refine J_aload_n dX7_init_209 rfl ?_
  refine J_bipush (v := 37) dX7_init_210 (by decide) ?_
  refine Jc_newa (atype := .int) (t := 32) (B := 37) (x := .inl (fun _ => 0)) jw_ac_int rfl (fun _ h => by cases h) (by decide) dX7_init_212 (by decide) (by decide) (by decide) (fun _ _ => rfl) (fun hN => jok_zI rfl (by decide) (by decide) (fun m h => by cases h <;> rfl) hN) (by decide) (by decide) hW (fun b212 V212 hn212 hb212 hk212 hW hx212 => ?_)
  have hz212 := he.1.none hn212
  have he := he.trans (hx212.sub (jsub_of rfl))
  have hb7 := hb7.mono hx212.1
  have hb15 := hb15.mono hx212.1
  have hb24 := hb24.mono hx212.1
  have hb32 := hb32.mono hx212.1
  have hb40 := hb40.mono hx212.1
  have hb48 := hb48.mono hx212.1
  have hb56 := hb56.mono hx212.1
  have hb64 := hb64.mono hx212.1
  have hb72 := hb72.mono hx212.1
  have hb80 := hb80.mono hx212.1
  have hb88 := hb88.mono hx212.1
  have hb96 := hb96.mono hx212.1
  have hb104 := hb104.mono hx212.1
  have hb112 := hb112.mono hx212.1
  have hb120 := hb120.mono hx212.1
  have hb128 := hb128.mono hx212.1
  have hb136 := hb136.mono hx212.1
  have hb144 := hb144.mono hx212.1
  have hb153 := hb153.mono hx212.1
  have hb162 := hb162.mono hx212.1
  have hb180 := hb180.mono hx212.1
  have hb188 := hb188.mono hx212.1
  have hb196 := hb196.mono hx212.1
  have hb204 := hb204.mono hx212.1
  have hq := hk212 _ _ hq
  have hA180 := hk212 _ _ hA180
  refine Jc_putF jf_X7_92 jt_X7_32 rfl (fun _ h => by cases h; rfl) dX7_init_214 hq rfl rfl (Nat.le_of_ble_eq_true rfl) (fun _ h => by cases h) hW (fun V214 hq hW hx214 hB214 => ?_)
  have hq : V214 q = some (.inr (5, [.int 0, .ref b7, .ref b15, .ref b24, .ref b32, .int 0, .ref b40, .ref b48, .ref b56, .ref b64, .ref b72, .ref b80, .ref b88, .ref b96, .ref b104, .ref b112, .ref b120, .ref b128, .ref b136, .ref b144, .ref b153, .ref b162, .int 0, .int 2, .int 2, .ref b180, .int 0, .int 0, .int 0, .ref b188, .ref b196, .ref b204, .ref b212, .null])) := hq
  have he := he.trans (hx214.sub (jsub_of rfl))
  have hb7 := hb7.mono hx214.1
  have hb15 := hb15.mono hx214.1
  have hb24 := hb24.mono hx214.1
  have hb32 := hb32.mono hx214.1
  have hb40 := hb40.mono hx214.1
  have hb48 := hb48.mono hx214.1
  have hb56 := hb56.mono hx214.1
  have hb64 := hb64.mono hx214.1
  have hb72 := hb72.mono hx214.1
  have hb80 := hb80.mono hx214.1
  have hb88 := hb88.mono hx214.1
  have hb96 := hb96.mono hx214.1
  have hb104 := hb104.mono hx214.1
  have hb112 := hb112.mono hx214.1
  have hb120 := hb120.mono hx214.1
  have hb128 := hb128.mono hx214.1
  have hb136 := hb136.mono hx214.1
  have hb144 := hb144.mono hx214.1
  have hb153 := hb153.mono hx214.1
  have hb162 := hb162.mono hx214.1
  have hb180 := hb180.mono hx214.1
  have hb188 := hb188.mono hx214.1
  have hb196 := hb196.mono hx214.1
  have hb204 := hb204.mono hx214.1
  have hb212 := hb212.mono hx214.1
  have hA180 := hx214.2 _ _ hA180 (jnot_of rfl)
  refine J_aload_n dX7_init_217 rfl ?_
  refine J_bipush (v := 36) dX7_init_218 (by decide) ?_
  refine Jc_newa (atype := .int) (t := 33) (B := 36) (x := .inl (fun _ => 0)) jw_ac_int rfl (fun _ h => by cases h) (by decide) dX7_init_220 (by decide) (by decide) (by decide) (fun _ _ => rfl) (fun hN => jok_zI rfl (by decide) (by decide) (fun m h => by cases h <;> rfl) hN) (by decide) (by decide) hW (fun b220 V220 hn220 hb220 hk220 hW hx220 => ?_)
  have hz220 := he.1.none hn220
  have he := he.trans (hx220.sub (jsub_of rfl))
  have hb7 := hb7.mono hx220.1
  have hb15 := hb15.mono hx220.1
  have hb24 := hb24.mono hx220.1
  have hb32 := hb32.mono hx220.1
  have hb40 := hb40.mono hx220.1
  have hb48 := hb48.mono hx220.1
  have hb56 := hb56.mono hx220.1
  have hb64 := hb64.mono hx220.1
  have hb72 := hb72.mono hx220.1
  have hb80 := hb80.mono hx220.1
  have hb88 := hb88.mono hx220.1
  have hb96 := hb96.mono hx220.1
  have hb104 := hb104.mono hx220.1
  have hb112 := hb112.mono hx220.1
  have hb120 := hb120.mono hx220.1
  have hb128 := hb128.mono hx220.1
  have hb136 := hb136.mono hx220.1
  have hb144 := hb144.mono hx220.1
  have hb153 := hb153.mono hx220.1
  have hb162 := hb162.mono hx220.1
  have hb180 := hb180.mono hx220.1
  have hb188 := hb188.mono hx220.1
  have hb196 := hb196.mono hx220.1
  have hb204 := hb204.mono hx220.1
  have hb212 := hb212.mono hx220.1
  have hq := hk220 _ _ hq
  have hA180 := hk220 _ _ hA180
  refine Jc_putF jf_X7_95 jt_X7_33 rfl (fun _ h => by cases h; rfl) dX7_init_222 hq rfl rfl (Nat.le_of_ble_eq_true rfl) (fun _ h => by cases h) hW (fun V222 hq hW hx222 hB222 => ?_)
  have hq : V222 q = some (.inr (5, [.int 0, .ref b7, .ref b15, .ref b24, .ref b32, .int 0, .ref b40, .ref b48, .ref b56, .ref b64, .ref b72, .ref b80, .ref b88, .ref b96, .ref b104, .ref b112, .ref b120, .ref b128, .ref b136, .ref b144, .ref b153, .ref b162, .int 0, .int 2, .int 2, .ref b180, .int 0, .int 0, .int 0, .ref b188, .ref b196, .ref b204, .ref b212, .ref b220])) := hq
  have he := he.trans (hx222.sub (jsub_of rfl))
  have hb7 := hb7.mono hx222.1
  have hb15 := hb15.mono hx222.1
  have hb24 := hb24.mono hx222.1
  have hb32 := hb32.mono hx222.1
  have hb40 := hb40.mono hx222.1
  have hb48 := hb48.mono hx222.1
  have hb56 := hb56.mono hx222.1
  have hb64 := hb64.mono hx222.1
  have hb72 := hb72.mono hx222.1
  have hb80 := hb80.mono hx222.1
  have hb88 := hb88.mono hx222.1
  have hb96 := hb96.mono hx222.1
  have hb104 := hb104.mono hx222.1
  have hb112 := hb112.mono hx222.1
  have hb120 := hb120.mono hx222.1
  have hb128 := hb128.mono hx222.1
  have hb136 := hb136.mono hx222.1
  have hb144 := hb144.mono hx222.1
  have hb153 := hb153.mono hx222.1
  have hb162 := hb162.mono hx222.1
  have hb180 := hb180.mono hx222.1
  have hb188 := hb188.mono hx222.1
  have hb196 := hb196.mono hx222.1
  have hb204 := hb204.mono hx222.1
  have hb212 := hb212.mono hx222.1
  have hb220 := hb220.mono hx222.1
  have hA180 := hx222.2 _ _ hA180 (jnot_of rfl)
  exact J_ret (r := none) dX7_init_225 ⟨rfl, rfl⟩ (⟨rfl, hW.fin hq (jokO_cons ⟨_, rfl, by first | decide | assumption | omega, by first | decide | assumption | omega⟩ (jokO_cons ⟨_, rfl, hb7⟩ (jokO_cons ⟨_, rfl, hb15⟩ (jokO_cons ⟨_, rfl, hb24⟩ (jokO_cons ⟨_, rfl, hb32⟩ (jokO_cons ⟨_, rfl, by first | decide | assumption | omega, by first | decide | assumption | omega⟩ (jokO_cons ⟨_, rfl, hb40⟩ (jokO_cons ⟨_, rfl, hb48⟩ (jokO_cons ⟨_, rfl, hb56⟩ (jokO_cons ⟨_, rfl, hb64⟩ (jokO_cons ⟨_, rfl, hb72⟩ (jokO_cons ⟨_, rfl, hb80⟩ (jokO_cons ⟨_, rfl, hb88⟩ (jokO_cons ⟨_, rfl, hb96⟩ (jokO_cons ⟨_, rfl, hb104⟩ (jokO_cons ⟨_, rfl, hb112⟩ (jokO_cons ⟨_, rfl, hb120⟩ (jokO_cons ⟨_, rfl, hb128⟩ (jokO_cons ⟨_, rfl, hb136⟩ (jokO_cons ⟨_, rfl, hb144⟩ (jokO_cons ⟨_, rfl, hb153⟩ (jokO_cons ⟨_, rfl, hb162⟩ (jokO_cons ⟨_, rfl, (j_rng _).1, (j_rng _).2⟩ (jokO_cons ⟨_, rfl, by first | decide | assumption | omega, by first | decide | assumption | omega⟩ (jokO_cons ⟨_, rfl, by first | decide | assumption | omega, by first | decide | assumption | omega⟩ (jokO_cons ⟨_, rfl, hb180⟩ (jokO_cons ⟨_, rfl, by first | decide | assumption | omega, by first | decide | assumption | omega⟩ (jokO_cons ⟨_, rfl, by first | decide | assumption | omega, by first | decide | assumption | omega⟩ (jokO_cons ⟨_, rfl, (j_rng _).1, (j_rng _).2⟩ (jokO_cons ⟨_, rfl, hb188⟩ (jokO_cons ⟨_, rfl, hb196⟩ (jokO_cons ⟨_, rfl, hb204⟩ (jokO_cons ⟨_, rfl, hb212⟩ (jokO_cons ⟨_, rfl, hb220⟩ (jokO_nil))))))))))))))))))))))))))))))))))), he, ⟨_, hq, rfl⟩, ⟨_, hq, rfl⟩, ⟨_, hq, rfl⟩, ⟨_, hq, rfl⟩, ⟨_, _, hq, rfl, hA180⟩⟩)
set_option maxRecDepth 100000 in
set_option maxHeartbeats 8000000 in
theorem w_X0_directions_z {tS : jTS} (d : Nat) (V0 : jH) (x0 : Int32) (hd : 0 ≤ d)   : jTot tS mX0_directions d [.int x0] V0 0 0 (fun r V => (fun r _ => ∃ y : Int32, r = some (.int y) ∧ (3 ≤ y.toInt) ∧ (y.toInt ≤ 6) ∧ (y.toInt = jdir x0.toInt)) r V ∧ V = V0) := by
  refine jTot.of_J [some (.int x0)] moX0_directions (Nat.le_of_ble_eq_true rfl) rfl ?_
  have hrx0 := j_rng x0
  have hjd := jdir_cases x0.toInt
  refine J_iload_n dX0_directions_0 rfl ?_
  refine Jz_if_ne (tgt := 8) jEq.rf dX0_directions_1 (by decide) (fun c1 => ?_) (fun c1 => ?_)
  · refine J_iload_n dX0_directions_8 rfl ?_
    refine Jz_iconst 2 dX0_directions_9 (by decide) (fun y9 he9 => ?_)
    refine Jz_icmp_ne (tgt := 17) jEq.rf he9 dX0_directions_10 (by decide) (fun c10 => ?_) (fun c10 => ?_)
    · refine Jz_bipush 6 dX0_directions_17 (by decide) (fun y17 he17 => ?_)
      exact J_ret (r := some (.int _)) dX0_directions_19 ⟨rfl, _, rfl, rfl⟩ (⟨⟨_, rfl, (by (try simp only [he17.eq, true_and, and_true]) <;> omega), (by (try simp only [he17.eq, true_and, and_true]) <;> omega), (by (try simp only [he17.eq, true_and, and_true]) <;> omega)⟩, rfl⟩)
    · refine Jz_iconst 3 dX0_directions_13 (by decide) (fun y13 he13 => ?_)
      refine J_goto (tgt := 19) dX0_directions_14 (by decide) ?_
      exact J_ret (r := some (.int _)) dX0_directions_19 ⟨rfl, _, rfl, rfl⟩ (⟨⟨_, rfl, (by (try simp only [he13.eq, true_and, and_true]) <;> omega), (by (try simp only [he13.eq, true_and, and_true]) <;> omega), (by (try simp only [he13.eq, true_and, and_true]) <;> omega)⟩, rfl⟩)
  · refine Jz_iconst 4 dX0_directions_4 (by decide) (fun y4 he4 => ?_)
    refine J_goto (tgt := 19) dX0_directions_5 (by decide) ?_
    exact J_ret (r := some (.int _)) dX0_directions_19 ⟨rfl, _, rfl, rfl⟩ (⟨⟨_, rfl, (by (try simp only [he4.eq, true_and, and_true]) <;> omega), (by (try simp only [he4.eq, true_and, and_true]) <;> omega), (by (try simp only [he4.eq, true_and, and_true]) <;> omega)⟩, rfl⟩)
set_option maxRecDepth 100000 in
set_option maxHeartbeats 8000000 in
theorem w_X6_reach_bad {tS : jTS} (d : Nat) (V0 : jH) (a0 : Nat) (x1 : Int32) (x2 : Int32) (hd : 14 ≤ d) (hW : WT V0) (ha0 : jis V0 (.inr 4) a0) (hbad : x1 < 0 ∨ Int32.ofNat 4 ≤ x1 ∨ x2 < 1 ∨ ¬ x2 ≤ 20) : jTot tS mX6_reach d [.ref a0, .int x1, .int x2] V0 0 0 (fun r V => (fun r _ => ∃ y : Int32, r = some (.int y) ∧ ((-2147483648) ≤ y.toInt) ∧ (y.toInt ≤ 2147483647)) r V ∧ V = V0) := by
  refine jTot.of_J [some (.ref a0), some (.int x1), some (.int x2), none, none, none] moX6_reach (Nat.le_of_ble_eq_true rfl) rfl ?_
  have hrx1 := j_rng x1
  have hrx2 := j_rng x2
  have he : jeff [] V0 V0 := jeff.refl _ _
  refine J_aload_n dX6_reach_0 rfl ?_
  refine J_iload_n dX6_reach_1 rfl ?_
  refine J_iload_n dX6_reach_2 rfl ?_
  refine Jz_iconst 1 dX6_reach_3 (by decide) (fun y3 he3 => ?_)
  refine Jw_callV3 (q9 := (RX6, TX6, 7)) moX6_tallyFor jw_ml_X6_149 jw_im_X6_tallyFor jw_se_X6_tallyFor ha0 rfl rfl dX6_reach_4 (w_X6_tallyFor_bad (d - 1) _ _ _ _ _ (by omega) hW ha0 (by rw [(jI_inj.mp (he3.eq.trans rfl) : y3 = 1)]; exact hbad)) (by omega) (Nat.zero_le _) (Nat.zero_le _) (Nat.le_of_ble_eq_true rfl) (fun r4 V4 h4 => ?_)
  obtain ⟨rfl, hE4⟩ := h4
  have hE4 := hE4.symm
  subst hE4
  · refine J_astore_nN dX6_reach_7 rfl (by decide) ?_
    refine J_aload_nN dX6_reach_8 rfl ?_
    refine J_ifnullN (tgt := 23) dX6_reach_9 (by decide) ?_
    refine Jz_bipush (-2) dX6_reach_23 (by decide) (fun y23 he23 => ?_)
    exact J_ret (r := some (.int _)) dX6_reach_25 ⟨rfl, _, rfl, rfl⟩ (⟨⟨_, rfl, (j_rng _).1, (j_rng _).2⟩, rfl⟩)
set_option maxRecDepth 100000 in
set_option maxHeartbeats 8000000 in
theorem w_X6_reach_oldq {tS : jTS} (d : Nat) (V0 : jH) (a0 : Nat) (x1 : Int32) (x2 : Int32) (fs : List Value) (tl : Nat) (f : Nat → Option Nat) (j : Nat) (t : Nat) (ts : List Value) (rc : Nat) (h : Nat → Int32) (hd : 14 ≤ d) (hW : WT V0) (ha0 : jis V0 (.inr 4) a0) (hx : V0 a0 = some (.inr (4, fs))) (h5 : fs[5]? = some (.ref tl)) (htl : V0 tl = some (.inl (5, 4, .inr (.inr (.inr (.inr f)))))) (hg : x1 = nI j) (hj : j < 4) (hb1 : ¬ x1 < 0) (hb2 : ¬ Int32.ofNat 4 ≤ x1) (hb3 : ¬ x2 < 1) (hb4 : x2 ≤ 20) (hf : f j = some t) (ht : V0 t = some (.inr (2, ts))) (h9 : ts[9]? = some (.ref rc)) (hrc : V0 rc = some (.inl (9, 7, .inl h))) (hp0 : 1 ≤ x2.toInt) (hp1 : x2.toInt ≤ 20) (hp2 : x1.toInt = 2 ∨ 6 < x2.toInt ∨ 10000 < jpw (jdir x1.toInt) x2.toInt.toNat ∨ ¬ (h x2.toInt.toNat).toInt = -1) : jTot tS mX6_reach d [.ref a0, .int x1, .int x2] V0 0 0 (fun r V => (fun r _ => ∃ y : Int32, r = some (.int y) ∧ ((-2147483648) ≤ y.toInt) ∧ (y.toInt ≤ 2147483647)) r V ∧ V = V0) := by
  refine jTot.of_J [some (.ref a0), some (.int x1), some (.int x2), none, none, none] moX6_reach (Nat.le_of_ble_eq_true rfl) rfl ?_
  have hrx1 := j_rng x1
  have hrx2 := j_rng x2
  have he : jeff [] V0 V0 := jeff.refl _ _
  have hKx : jokO V0 (jFs 4) fs := hW _ _ id hx
  have htlk : jis V0 (.inl 5) tl := ⟨_, htl, rfl⟩
  have hN4 : (4 : Nat) < 2 ^ 31 := by decide
  have hvt : ∀ (j b : Nat), j < 4 → f j = some b → jis V0 (.inr 2) b := by
    obtain ⟨n9, f9, h91, h92, h93, h94⟩ := WT_arrR hW id rfl htlk
    cases htl.symm.trans h91
    exact h94
  have hjj : ∀ j2 : Nat, x1 = nI j2 → j2 < 4 → j2 = j := fun j2 h1 h2 => by
    have h3 : x1.toNatClampNeg = j2 := by rw [h1]; exact nI_clamp (by omega)
    have h4 : x1.toNatClampNeg = j := by rw [hg]; exact nI_clamp (by omega)
    omega
  clear hN4
  have hbt : jis V0 (.inr 2) t := ⟨_, ht, rfl⟩
  have hKt : jokO V0 (jFs 2) ts := hW _ _ id ht
  have hbrc : jis V0 (.inl 9) rc := ⟨_, hrc, rfl⟩
  obtain ⟨hNrc, hvrc⟩ := WT_rngI (r := (-2147483648, 2147483647)) hW id rfl hrc
  clear hNrc
  have ho : ∀ j2, x1 = nI j2 → j2 < 4 → ∃ t2, f j2 = some t2 := fun j2 h1 h2 => ⟨t, by rw [hjj j2 h1 h2]; exact hf⟩
  refine J_aload_n dX6_reach_0 rfl ?_
  refine J_iload_n dX6_reach_1 rfl ?_
  refine J_iload_n dX6_reach_2 rfl ?_
  refine Jz_iconst 1 dX6_reach_3 (by decide) (fun y3 he3 => ?_)
  refine Jw_callV3 (q9 := (RX6, TX6, 7)) moX6_tallyFor jw_ml_X6_149 jw_im_X6_tallyFor jw_se_X6_tallyFor ha0 rfl rfl dX6_reach_4 (w_X6_tallyFor_old (d - 1) _ _ _ _ _ fs tl f (by omega) hW ha0 hx h5 htl ho hb1 hb2 (by rw [(jI_inj.mp (he3.eq.trans rfl) : y3 = 1)]; exact hb3) hb4) (by omega) (Nat.zero_le _) (Nat.zero_le _) (Nat.le_of_ble_eq_true rfl) (fun r4 V4 h4 => ?_)
  obtain ⟨hr4, hE4⟩ := h4
  have hE4 := hE4.symm
  subst hE4
  obtain ⟨j2, t2, hj2, hg2, ht2, rfl⟩ := hr4
  · have hj3 := hjj j2 hg2 hj2
    subst hj3
    have ht3 := Option.some.inj (hf.symm.trans ht2)
    subst ht3
    refine J_astore_n dX6_reach_7 rfl (by decide) ?_
    refine J_aload_n dX6_reach_8 rfl ?_
    refine J_ifnull dX6_reach_9 ?_
    refine J_iload_n dX6_reach_12 rfl ?_
    refine Jz_iconst 2 dX6_reach_13 (by decide) (fun y13 he13 => ?_)
    refine Jz_icmp_eq (tgt := 23) jEq.rf he13 dX6_reach_14 (by decide) (fun c14 => ?_) (fun c14 => ?_)
    · refine Jz_bipush (-2) dX6_reach_23 (by decide) (fun y23 he23 => ?_)
      exact J_ret (r := some (.int _)) dX6_reach_25 ⟨rfl, _, rfl, rfl⟩ (⟨⟨_, rfl, (j_rng _).1, (j_rng _).2⟩, rfl⟩)
    · refine J_iload_n dX6_reach_17 rfl ?_
      refine Jz_bipush 6 dX6_reach_18 (by decide) (fun y18 he18 => ?_)
      refine Jz_icmp_le (tgt := 26) jEq.rf he18 dX6_reach_20 (by decide) (fun c20 => ?_) (fun c20 => ?_)
      · refine Jz_iconst 1 dX6_reach_26 (by decide) (fun y26 he26 => ?_)
        refine J_istore dX6_reach_27 rfl (by decide) ?_
        refine Jz_iconst 0 dX6_reach_29 (by decide) (fun y29 he29 => ?_)
        refine J_istore dX6_reach_30 rfl (by decide) ?_
        have L32 : ∀ (N : Nat) (i4n32 : Int32) (i5n32 : Int32), (0 ≤ i5n32.toInt ∧ i5n32.toInt ≤ x2.toInt) → (i4n32.toInt = jpw (jdir x1.toInt) i5n32.toInt.toNat) → (300 - i5n32.toInt).toNat < N → J tS mX6_reach d 32 [some (.ref a0), some (.int x1), some (.int x2), some (.ref t), some (.int i4n32), some (.int i5n32)] [] V0 0 0 (fun r V => (fun r _ => ∃ y : Int32, r = some (.int y) ∧ ((-2147483648) ≤ y.toInt) ∧ (y.toInt ≤ 2147483647)) r V ∧ V = V0) := by
          intro N
          induction N with
          | zero => intro i4n32 i5n32  hi5 hpw hm; exact absurd hm (Nat.not_lt_zero _)
          | succ N ih =>
            intro i4n32 i5n32  hi5 hpw hm
            have ih32 := ih
            have hri5 := j_rng i5n32
            refine J_iload dX6_reach_32 rfl ?_
            refine J_iload_n dX6_reach_34 rfl ?_
            refine Jz_icmp_ge (tgt := 53) jEq.rf jEq.rf dX6_reach_35 (by decide) (fun c35 => ?_) (fun c35 => ?_)
            · have hall : i4n32.toInt = jpw (jdir x1.toInt) x2.toInt.toNat := by rw [hpw, show i5n32.toInt.toNat = x2.toInt.toNat by omega]
              refine J_iload dX6_reach_53 rfl ?_
              refine Jz_sipush 10000 dX6_reach_55 (by decide) (fun y55 he55 => ?_)
              refine Jz_icmp_le (tgt := 64) jEq.rf he55 dX6_reach_58 (by decide) (fun c58 => ?_) (fun c58 => ?_)
              · refine J_aload_n dX6_reach_64 rfl ?_
                refine J_get jf_X6_190 dX6_reach_65 ht h9 ?_
                refine J_iload_n dX6_reach_68 rfl ?_
                refine J_callS2 moX6_cell jw_ml_X6_110 jw_st_X6_cell dX6_reach_69 (w_X6_cell_x (d - 1) _ _ _ hrc (by decide) rfl (by omega) (by omega)) (by omega) (Nat.zero_le _) (Nat.zero_le _) (Nat.le_of_ble_eq_true rfl) (fun r69 V69 h69 => ?_)
                obtain ⟨⟨y69, rfl, hf69⟩, hE69⟩ := h69
                have hE69 := hE69.symm
                subst hE69
                · refine Jz_iconst (-1) dX6_reach_72 (by decide) (fun y72 he72 => ?_)
                  refine Jz_icmp_ne (tgt := 102) jEq.rf he72 dX6_reach_73 (by decide) (fun c73 => ?_) (fun c73 => ?_)
                  · refine J_aload_n dX6_reach_102 rfl ?_
                    refine J_get jf_X6_190 dX6_reach_103 ht h9 ?_
                    refine J_iload_n dX6_reach_106 rfl ?_
                    refine J_callS2 moX6_cell jw_ml_X6_110 jw_st_X6_cell dX6_reach_107 (w_X6_cell_x (d - 1) _ _ _ hrc (by decide) rfl (by omega) (by omega)) (by omega) (Nat.zero_le _) (Nat.zero_le _) (Nat.le_of_ble_eq_true rfl) (fun r107 V107 h107 => ?_)
                    obtain ⟨⟨y107, rfl, hf107⟩, hE107⟩ := h107
                    have hE107 := hE107.symm
                    subst hE107
                    · exact J_ret (r := some (.int _)) dX6_reach_110 ⟨rfl, _, rfl, rfl⟩ (⟨⟨_, rfl, (j_rng _).1, (j_rng _).2⟩, rfl⟩)
                  · exact False.elim (by rw [hf69] at hp2; omega)
              · refine Jz_bipush (-5) dX6_reach_61 (by decide) (fun y61 he61 => ?_)
                exact J_ret (r := some (.int _)) dX6_reach_63 ⟨rfl, _, rfl, rfl⟩ (⟨⟨_, rfl, (j_rng _).1, (j_rng _).2⟩, rfl⟩)
            · refine J_iload dX6_reach_38 rfl ?_
              refine J_iload_n dX6_reach_40 rfl ?_
              refine J_callS1 moX0_directions jw_ml_X6_187 jw_st_X0_directions dX6_reach_41 (w_X0_directions_z (d - 1) _ x1 (by omega)   ) (by omega) (Nat.zero_le _) (Nat.zero_le _) (Nat.le_of_ble_eq_true rfl) (fun r41 V41 h41 => ?_)
              obtain ⟨⟨y41, rfl, hl41, hh41, hP41_0⟩, hE41⟩ := h41
              have hE41 := hE41.symm
              subst hE41
              have hz41 : jEq y41.toInt (jdir (x1.toInt)) := hP41_0
              simp only [hP41_0] at hl41 hh41
              clear hP41_0
              have hjd := jdir_cases x1.toInt
              have hq1 : i4n32.toInt * jdir x1.toInt = jpw (jdir x1.toInt) (i5n32.toInt.toNat + 1) := by rw [hpw, Int.mul_comm]; rfl
              have hq2 := jpw_le6 (d := jdir x1.toInt) (by omega) (by omega) (n := i5n32.toInt.toNat + 1) (by omega)
              have hq3 := jpw_pos (d := jdir x1.toInt) (by omega) (i5n32.toInt.toNat + 1)
              refine Jz_imul jEq.rf hz41 dX6_reach_44 (by omega) (by omega) (fun y44 he44 => ?_)
              refine J_istore dX6_reach_45 rfl (by decide) ?_
              refine Jz_iinc 1 dX6_reach_47 rfl rfl (by decide) jEq.rf (by decide) (by omega) (by omega) (fun y47 he47 => ?_)
              refine J_goto (tgt := 32) dX6_reach_50 (by decide) ?_
              refine J.mask [true, true, true, true, true, true] ?_
              exact ih32  y44 y47  (by (try simp only [he44.eq, he47.eq, true_and, and_true]) <;> omega) (by rw [he44.eq, Int.mul_comm, hpw, he47.eq, show (i5n32.toInt + 1).toNat = i5n32.toInt.toNat + 1 by omega]; rfl) (by (try simp only [he44.eq, he47.eq, true_and, and_true]) <;> omega)
        refine J.mask [true, true, true, true, true, true] ?_
        exact L32 _  y26 y29    (by (try simp only [he26.eq, he29.eq, true_and, and_true]) <;> omega) (by rw [he26.eq, he29.eq]; rfl) (Nat.lt_succ_self _)
      · refine Jz_bipush (-2) dX6_reach_23 (by decide) (fun y23 he23 => ?_)
        exact J_ret (r := some (.int _)) dX6_reach_25 ⟨rfl, _, rfl, rfl⟩ (⟨⟨_, rfl, (j_rng _).1, (j_rng _).2⟩, rfl⟩)
set_option maxRecDepth 100000 in
set_option maxHeartbeats 8000000 in
theorem w_X6_reach_olda {tS : jTS} (d : Nat) (V0 : jH) (a0 : Nat) (x1 : Int32) (x2 : Int32) (fs : List Value) (tl : Nat) (f : Nat → Option Nat) (j : Nat) (t : Nat) (ts : List Value) (rc : Nat) (h : Nat → Int32) (hd : 14 ≤ d) (hW : WT V0) (ha0 : jis V0 (.inr 4) a0) (hx : V0 a0 = some (.inr (4, fs))) (h5 : fs[5]? = some (.ref tl)) (htl : V0 tl = some (.inl (5, 4, .inr (.inr (.inr (.inr f)))))) (hg : x1 = nI j) (hj : j < 4) (hb1 : ¬ x1 < 0) (hb2 : ¬ Int32.ofNat 4 ≤ x1) (hb3 : ¬ x2 < 1) (hb4 : x2 ≤ 20) (hf : f j = some t) (ht : V0 t = some (.inr (2, ts))) (h9 : ts[9]? = some (.ref rc)) (hrc : V0 rc = some (.inl (9, 7, .inl h))) (hp0 : 1 ≤ x2.toInt) (hp1 : x2.toInt ≤ 20) (hp2 : ¬ x1.toInt = 2) (hp3 : x2.toInt ≤ 6) (hp4 : jpw (jdir x1.toInt) x2.toInt.toNat ≤ 10000) (hp5 : (h x2.toInt.toNat).toInt = -1) : jTot tS mX6_reach d [.ref a0, .int x1, .int x2] V0 4 20013 (fun r V => (jPost [.inr 3, .inr 1, .inl 6, .inl 34, .inl 35, .inl 36, .inl 3, .inl 10, .inl 11, .inl 9] V0 (fun r _ => ∃ y : Int32, r = some (.int y) ∧ ((-2147483648) ≤ y.toInt) ∧ (y.toInt ≤ 2147483647))) r V ∧ jle9 V0 V ∧ (∃ G : Nat → Int32, V rc = some (.inl (9, 7, .inl G)) ∧ jcn (-1) G 7 = jcn (-1) h 7 + 1) ∧ jrt a0 V0 V) := by
  refine jTot.of_J [some (.ref a0), some (.int x1), some (.int x2), none, none, none] moX6_reach (Nat.le_of_ble_eq_true rfl) rfl ?_
  have hrx1 := j_rng x1
  have hrx2 := j_rng x2
  have he : jeff [.inr 3, .inr 1, .inl 6, .inl 34, .inl 35, .inl 36, .inl 3, .inl 10, .inl 11, .inl 9] V0 V0 := jeff.refl _ _
  have hkr : jrt a0 V0 V0 := jrt.rf
  have hj9 : jle9 V0 V0 := jle9.rf
  have hKx : jokO V0 (jFs 4) fs := hW _ _ id hx
  have htlk : jis V0 (.inl 5) tl := ⟨_, htl, rfl⟩
  have hN4 : (4 : Nat) < 2 ^ 31 := by decide
  have hvt : ∀ (j b : Nat), j < 4 → f j = some b → jis V0 (.inr 2) b := by
    obtain ⟨n9, f9, h91, h92, h93, h94⟩ := WT_arrR hW id rfl htlk
    cases htl.symm.trans h91
    exact h94
  have hjj : ∀ j2 : Nat, x1 = nI j2 → j2 < 4 → j2 = j := fun j2 h1 h2 => by
    have h3 : x1.toNatClampNeg = j2 := by rw [h1]; exact nI_clamp (by omega)
    have h4 : x1.toNatClampNeg = j := by rw [hg]; exact nI_clamp (by omega)
    omega
  clear hN4
  have hbt : jis V0 (.inr 2) t := ⟨_, ht, rfl⟩
  have hKt : jokO V0 (jFs 2) ts := hW _ _ id ht
  have hbrc : jis V0 (.inl 9) rc := ⟨_, hrc, rfl⟩
  obtain ⟨hNrc, hvrc⟩ := WT_rngI (r := (-2147483648, 2147483647)) hW id rfl hrc
  clear hNrc
  have ho : ∀ j2, x1 = nI j2 → j2 < 4 → ∃ t2, f j2 = some t2 := fun j2 h1 h2 => ⟨t, by rw [hjj j2 h1 h2]; exact hf⟩
  refine J_aload_n dX6_reach_0 rfl ?_
  refine J_iload_n dX6_reach_1 rfl ?_
  refine J_iload_n dX6_reach_2 rfl ?_
  refine Jz_iconst 1 dX6_reach_3 (by decide) (fun y3 he3 => ?_)
  refine Jw_callV3 (q9 := (RX6, TX6, 7)) moX6_tallyFor jw_ml_X6_149 jw_im_X6_tallyFor jw_se_X6_tallyFor ha0 rfl rfl dX6_reach_4 (w_X6_tallyFor_old (d - 1) _ _ _ _ _ fs tl f (by omega) hW ha0 hx h5 htl ho hb1 hb2 (by rw [(jI_inj.mp (he3.eq.trans rfl) : y3 = 1)]; exact hb3) hb4) (by omega) (Nat.zero_le _) (Nat.zero_le _) (Nat.le_of_ble_eq_true rfl) (fun r4 V4 h4 => ?_)
  obtain ⟨hr4, hE4⟩ := h4
  have hE4 := hE4.symm
  subst hE4
  obtain ⟨j2, t2, hj2, hg2, ht2, rfl⟩ := hr4
  · have hj3 := hjj j2 hg2 hj2
    subst hj3
    have ht3 := Option.some.inj (hf.symm.trans ht2)
    subst ht3
    refine J_astore_n dX6_reach_7 rfl (by decide) ?_
    refine J_aload_n dX6_reach_8 rfl ?_
    refine J_ifnull dX6_reach_9 ?_
    refine J_iload_n dX6_reach_12 rfl ?_
    refine Jz_iconst 2 dX6_reach_13 (by decide) (fun y13 he13 => ?_)
    refine Jz_icmp_eq (tgt := 23) jEq.rf he13 dX6_reach_14 (by decide) (fun c14 => ?_) (fun c14 => ?_)
    · exact False.elim (by omega)
    · refine J_iload_n dX6_reach_17 rfl ?_
      refine Jz_bipush 6 dX6_reach_18 (by decide) (fun y18 he18 => ?_)
      refine Jz_icmp_le (tgt := 26) jEq.rf he18 dX6_reach_20 (by decide) (fun c20 => ?_) (fun c20 => ?_)
      · refine Jz_iconst 1 dX6_reach_26 (by decide) (fun y26 he26 => ?_)
        refine J_istore dX6_reach_27 rfl (by decide) ?_
        refine Jz_iconst 0 dX6_reach_29 (by decide) (fun y29 he29 => ?_)
        refine J_istore dX6_reach_30 rfl (by decide) ?_
        have L32 : ∀ (N : Nat) (i4n32 : Int32) (i5n32 : Int32), (0 ≤ i5n32.toInt ∧ i5n32.toInt ≤ x2.toInt) → (i4n32.toInt = jpw (jdir x1.toInt) i5n32.toInt.toNat) → (300 - i5n32.toInt).toNat < N → J tS mX6_reach d 32 [some (.ref a0), some (.int x1), some (.int x2), some (.ref t), some (.int i4n32), some (.int i5n32)] [] V0 4 20013 (fun r V => (jPost [.inr 3, .inr 1, .inl 6, .inl 34, .inl 35, .inl 36, .inl 3, .inl 10, .inl 11, .inl 9] V0 (fun r _ => ∃ y : Int32, r = some (.int y) ∧ ((-2147483648) ≤ y.toInt) ∧ (y.toInt ≤ 2147483647))) r V ∧ jle9 V0 V ∧ (∃ G : Nat → Int32, V rc = some (.inl (9, 7, .inl G)) ∧ jcn (-1) G 7 = jcn (-1) h 7 + 1) ∧ jrt a0 V0 V) := by
          intro N
          induction N with
          | zero => intro i4n32 i5n32  hi5 hpw hm; exact absurd hm (Nat.not_lt_zero _)
          | succ N ih =>
            intro i4n32 i5n32  hi5 hpw hm
            have ih32 := ih
            have hri5 := j_rng i5n32
            refine J_iload dX6_reach_32 rfl ?_
            refine J_iload_n dX6_reach_34 rfl ?_
            refine Jz_icmp_ge (tgt := 53) jEq.rf jEq.rf dX6_reach_35 (by decide) (fun c35 => ?_) (fun c35 => ?_)
            · have hall : i4n32.toInt = jpw (jdir x1.toInt) x2.toInt.toNat := by rw [hpw, show i5n32.toInt.toNat = x2.toInt.toNat by omega]
              refine J_iload dX6_reach_53 rfl ?_
              refine Jz_sipush 10000 dX6_reach_55 (by decide) (fun y55 he55 => ?_)
              refine Jz_icmp_le (tgt := 64) jEq.rf he55 dX6_reach_58 (by decide) (fun c58 => ?_) (fun c58 => ?_)
              · refine J_aload_n dX6_reach_64 rfl ?_
                refine J_get jf_X6_190 dX6_reach_65 ht h9 ?_
                refine J_iload_n dX6_reach_68 rfl ?_
                refine J_callS2 moX6_cell jw_ml_X6_110 jw_st_X6_cell dX6_reach_69 (w_X6_cell_x (d - 1) _ _ _ hrc (by decide) rfl (by omega) (by omega)) (by omega) (Nat.zero_le _) (Nat.zero_le _) (Nat.le_of_ble_eq_true rfl) (fun r69 V69 h69 => ?_)
                obtain ⟨⟨y69, rfl, hf69⟩, hE69⟩ := h69
                have hE69 := hE69.symm
                subst hE69
                · refine Jz_iconst (-1) dX6_reach_72 (by decide) (fun y72 he72 => ?_)
                  have hy69 : y69.toInt = -1 := by rw [← hf69]; exact hp5
                  refine Jz_icmp_ne (tgt := 102) jEq.rf he72 dX6_reach_73 (by decide) (fun c73 => (show False by omega).elim) (fun c73 => ?_)
                  refine J_aload_n dX6_reach_76 rfl ?_
                  refine J_get jf_X6_190 dX6_reach_77 ht h9 ?_
                  refine J_iload_n dX6_reach_80 rfl ?_
                  refine Jc_new jn_X6_193 dX6_reach_81 (by decide) (by decide) hW (fun q81 V81 hn81 hQ81 hk81 hW hx81 => ?_)
                  have hkr := hkr.trans he.1 (jrt.of hx81 (jdis_of rfl))
                  have he := he.trans (hx81.sub (jsub_of rfl))
                  have hj9 := hj9.trans (jle9.of hx81 (jnot_of rfl))
                  have ha0 := ha0.mono hx81.1
                  have htlk := htlk.mono hx81.1
                  have hbt := hbt.mono hx81.1
                  have hbrc := hbrc.mono hx81.1
                  have hx := hx81.2 _ _ hx (jnot_of rfl)
                  have hKx := hKx.mono hx81.1
                  have ht := hx81.2 _ _ ht (jnot_of rfl)
                  have hKt := hKt.mono hx81.1
                  have hrc := hx81.2 _ _ hrc (jnot_of rfl)
                  refine J_dup dX6_reach_84 rfl ?_
                  refine J_iload_n dX6_reach_85 rfl ?_
                  refine J_iload_n dX6_reach_86 rfl ?_
                  refine J_iload dX6_reach_87 rfl ?_
                  refine J_callI3 moX5_init rfl rfl jw_ml_X6_195 jw_im_X5_init dX6_reach_89 (w_X5_init (d - 1) _ _ _ _ _ (by omega) hW hQ81) (by omega) (by decide) (by decide) (Nat.le_of_ble_eq_true rfl) (fun r89 V89 h89 => ?_)
                  obtain ⟨rfl, hW, hx89, hj899⟩ := h89
                  have hkr := hkr.trans he.1 (jrt.of hx89 (jdis_of rfl))
                  have he := he.trans (hx89.sub (jsub_of rfl))
                  have hj9 := hj9.trans (jle9.of hx89 (jnot_of rfl))
                  have ha0 := ha0.mono hx89.1
                  have htlk := htlk.mono hx89.1
                  have hbt := hbt.mono hx89.1
                  have hbrc := hbrc.mono hx89.1
                  have hx := hx89.2 _ _ hx (jnot_of rfl)
                  have hKx := hKx.mono hx89.1
                  have ht := hx89.2 _ _ ht (jnot_of rfl)
                  have hKt := hKt.mono hx89.1
                  have hrc := hx89.2 _ _ hrc (jnot_of rfl)
                  refine J_aload_n dX6_reach_92 rfl ?_
                  obtain ⟨w93, hF93, b93, rfl, hb93⟩ := hKx.2 2 (.inr (some (.inr 1))) rfl
                  refine J_get jf_X6_22 dX6_reach_93 hx hF93 ?_
                  refine Jw_callV1 (q9 := (RX5, TX5, 7)) moX5_countReached jw_ml_X6_198 jw_im_X5_countReached jw_se_X5_countReached hj899 rfl rfl dX6_reach_96 (w_X5_countReached (d - 1) _ q81 b93 (by omega) hW hj899 hb93) (by omega) (Nat.zero_le _) (Nat.zero_le _) (Nat.le_of_ble_eq_true rfl) (fun r96 V96 h96 => ?_)
                  obtain ⟨h96, hX96_0⟩ := h96
                  obtain ⟨hW, hx96, hr96⟩ := h96
                  have hkr := hkr.trans he.1 (jrt.call hx hF93 hX96_0)
                  have he := he.trans (hx96.sub (jsub_of rfl))
                  have hj9 := hj9.trans (jle9.of hx96 (jnot_of rfl))
                  have ha0 := ha0.mono hx96.1
                  have htlk := htlk.mono hx96.1
                  have hbt := hbt.mono hx96.1
                  have hbrc := hbrc.mono hx96.1
                  have hb93 := hb93.mono hx96.1
                  have hx := hx96.2 _ _ hx (jnot_of rfl)
                  have hKx := hKx.mono hx96.1
                  have ht := hx96.2 _ _ ht (jnot_of rfl)
                  have hKt := hKt.mono hx96.1
                  have hrc := hx96.2 _ _ hrc (jnot_of rfl)
                  obtain ⟨y96, rfl, hl96, hh96⟩ := hr96
                  refine J_callS3 moX6_put jw_ml_X6_183 jw_st_X6_put dX6_reach_99 (w_X6_put_x (d - 1) _ _ _ _ hW hrc (by omega) (by omega) (by omega)) (by omega) (Nat.zero_le _) (Nat.zero_le _) (Nat.le_of_ble_eq_true rfl) (fun r99 V99 h99 => ?_)
                  obtain ⟨rfl, hW, hx99, hj99, G99, hA99, hp99, hc99⟩ := h99
                  obtain ⟨hN99, hv99⟩ := WT_rngI (r := (-2147483648, 2147483647)) hW id rfl hA99
                  clear hN99
                  have hkr := hkr.trans he.1 (jrt.of hx99 (jdis_of rfl))
                  have he := he.trans (hx99.sub (jsub_of rfl))
                  have hj9 := hj9.trans hj99
                  have ha0 := ha0.mono hx99.1
                  have htlk := htlk.mono hx99.1
                  have hbt := hbt.mono hx99.1
                  have hbrc := hbrc.mono hx99.1
                  have hb93 := hb93.mono hx99.1
                  have hx := hx99.2 _ _ hx (jnot_of rfl)
                  have hKx := hKx.mono hx99.1
                  have ht := hx99.2 _ _ ht (jnot_of rfl)
                  have hKt := hKt.mono hx99.1
                  · refine J_aload_n dX6_reach_102 rfl ?_
                    refine J_get jf_X6_190 dX6_reach_103 ht h9 ?_
                    refine J_iload_n dX6_reach_106 rfl ?_
                    refine J_callS2 moX6_cell jw_ml_X6_110 jw_st_X6_cell dX6_reach_107 (w_X6_cell_x (d - 1) _ _ _ hA99 (by decide) rfl (by omega) (by omega)) (by omega) (Nat.zero_le _) (Nat.zero_le _) (Nat.le_of_ble_eq_true rfl) (fun r107 V107 h107 => ?_)
                    obtain ⟨⟨y107, rfl, hf107⟩, hE107⟩ := h107
                    have hE107 := hE107.symm
                    subst hE107
                    · exact J_ret (r := some (.int _)) dX6_reach_110 ⟨rfl, _, rfl, rfl⟩ (⟨⟨hW, he, ⟨_, rfl, (j_rng _).1, (j_rng _).2⟩⟩, hj9, ⟨G99, hA99, hc99 hp5⟩, hkr⟩)
              · exact False.elim (by omega)
            · refine J_iload dX6_reach_38 rfl ?_
              refine J_iload_n dX6_reach_40 rfl ?_
              refine J_callS1 moX0_directions jw_ml_X6_187 jw_st_X0_directions dX6_reach_41 (w_X0_directions_z (d - 1) _ x1 (by omega)   ) (by omega) (Nat.zero_le _) (Nat.zero_le _) (Nat.le_of_ble_eq_true rfl) (fun r41 V41 h41 => ?_)
              obtain ⟨⟨y41, rfl, hl41, hh41, hP41_0⟩, hE41⟩ := h41
              have hE41 := hE41.symm
              subst hE41
              have hz41 : jEq y41.toInt (jdir (x1.toInt)) := hP41_0
              simp only [hP41_0] at hl41 hh41
              clear hP41_0
              have hjd := jdir_cases x1.toInt
              have hq1 : i4n32.toInt * jdir x1.toInt = jpw (jdir x1.toInt) (i5n32.toInt.toNat + 1) := by rw [hpw, Int.mul_comm]; rfl
              have hq2 := jpw_le6 (d := jdir x1.toInt) (by omega) (by omega) (n := i5n32.toInt.toNat + 1) (by omega)
              have hq3 := jpw_pos (d := jdir x1.toInt) (by omega) (i5n32.toInt.toNat + 1)
              refine Jz_imul jEq.rf hz41 dX6_reach_44 (by omega) (by omega) (fun y44 he44 => ?_)
              refine J_istore dX6_reach_45 rfl (by decide) ?_
              refine Jz_iinc 1 dX6_reach_47 rfl rfl (by decide) jEq.rf (by decide) (by omega) (by omega) (fun y47 he47 => ?_)
              refine J_goto (tgt := 32) dX6_reach_50 (by decide) ?_
              refine J.mask [true, true, true, true, true, true] ?_
              exact ih32  y44 y47  (by (try simp only [he44.eq, he47.eq, true_and, and_true]) <;> omega) (by rw [he44.eq, Int.mul_comm, hpw, he47.eq, show (i5n32.toInt + 1).toNat = i5n32.toInt.toNat + 1 by omega]; rfl) (by (try simp only [he44.eq, he47.eq, true_and, and_true]) <;> omega)
        refine J.mask [true, true, true, true, true, true] ?_
        exact L32 _  y26 y29    (by (try simp only [he26.eq, he29.eq, true_and, and_true]) <;> omega) (by rw [he26.eq, he29.eq]; rfl) (Nat.lt_succ_self _)
      · exact False.elim (by omega)
set_option maxRecDepth 100000 in
set_option maxHeartbeats 8000000 in
theorem w_X6_reach_new {tS : jTS} (d : Nat) (V0 : jH) (a0 : Nat) (x1 : Int32) (x2 : Int32) (fs : List Value) (tl : Nat) (f : Nat → Option Nat) (j : Nat) (hd : 14 ≤ d) (hW : WT V0) (ha0 : jis V0 (.inr 4) a0) (hx : V0 a0 = some (.inr (4, fs))) (h5 : fs[5]? = some (.ref tl)) (htl : V0 tl = some (.inl (5, 4, .inr (.inr (.inr (.inr f)))))) (hg : x1 = nI j) (hj : j < 4) (hb1 : ¬ x1 < 0) (hb2 : ¬ Int32.ofNat 4 ≤ x1) (hb3 : ¬ x2 < 1) (hb4 : x2 ≤ 20) (hf : f j = none) (hp0 : 1 ≤ x2.toInt) (hp1 : x2.toInt ≤ 20) : jTot tS mX6_reach d [.ref a0, .int x1, .int x2] V0 12 35751 (fun r V => (jPost [.inl 5, .inr 2, .inr 3, .inr 1, .inl 6, .inl 34, .inl 35, .inl 36, .inl 3, .inl 10, .inl 11, .inl 9] V0 (fun r _ => ∃ y : Int32, r = some (.int y) ∧ ((-2147483648) ≤ y.toInt) ∧ (y.toInt ≤ 2147483647))) r V ∧ jle9 V0 V ∧ (∃ f2 : Nat → Option Nat, V tl = some (.inl (5, 4, .inr (.inr (.inr (.inr f2))))) ∧ (∀ i, i ≠ j → f2 i = f i) ∧ ∃ t, f2 j = some t) ∧ jrt a0 V0 V) := by
  refine jTot.of_J [some (.ref a0), some (.int x1), some (.int x2), none, none, none] moX6_reach (Nat.le_of_ble_eq_true rfl) rfl ?_
  have hrx1 := j_rng x1
  have hrx2 := j_rng x2
  have he : jeff [.inl 5, .inr 2, .inr 3, .inr 1, .inl 6, .inl 34, .inl 35, .inl 36, .inl 3, .inl 10, .inl 11, .inl 9] V0 V0 := jeff.refl _ _
  have hkr : jrt a0 V0 V0 := jrt.rf
  have hj9 : jle9 V0 V0 := jle9.rf
  have hKx : jokO V0 (jFs 4) fs := hW _ _ id hx
  have htlk : jis V0 (.inl 5) tl := ⟨_, htl, rfl⟩
  have hN4 : (4 : Nat) < 2 ^ 31 := by decide
  have hvt : ∀ (j b : Nat), j < 4 → f j = some b → jis V0 (.inr 2) b := by
    obtain ⟨n9, f9, h91, h92, h93, h94⟩ := WT_arrR hW id rfl htlk
    cases htl.symm.trans h91
    exact h94
  have hjj : ∀ j2 : Nat, x1 = nI j2 → j2 < 4 → j2 = j := fun j2 h1 h2 => by
    have h3 : x1.toNatClampNeg = j2 := by rw [h1]; exact nI_clamp (by omega)
    have h4 : x1.toNatClampNeg = j := by rw [hg]; exact nI_clamp (by omega)
    omega
  clear hN4
  refine J_aload_n dX6_reach_0 rfl ?_
  refine J_iload_n dX6_reach_1 rfl ?_
  refine J_iload_n dX6_reach_2 rfl ?_
  refine Jz_iconst 1 dX6_reach_3 (by decide) (fun y3 he3 => ?_)
  refine Jw_callV3 (q9 := (RX6, TX6, 7)) moX6_tallyFor jw_ml_X6_149 jw_im_X6_tallyFor jw_se_X6_tallyFor ha0 rfl rfl dX6_reach_4 (w_X6_tallyFor_new (d - 1) _ _ _ _ _ fs tl f j (by omega) hW ha0 hx h5 htl hg hj hf hb1 hb2 (by rw [(jI_inj.mp (he3.eq.trans rfl) : y3 = 1)]; exact hb3) hb4) (by omega) (by omega) (by omega) (Nat.le_of_ble_eq_true rfl) (fun r4 V4 h4 => ?_)
  obtain ⟨t, rfl, hW, hx4, hbt, htl2⟩ := h4
  have hkr := hkr.trans he.1 (jrt.of hx4 (jdis_of rfl))
  have he := he.trans (hx4.sub (jsub_of rfl))
  have hj9 := hj9.trans (jle9.of hx4 (jnot_of rfl))
  have ha0 := ha0.mono hx4.1
  have htlk := htlk.mono hx4.1
  have hx := hx4.2 _ _ hx (jnot_of rfl)
  have hKx := hKx.mono hx4.1
  have htlk : jis V4 (.inl 5) tl := ⟨_, htl2, rfl⟩
  · refine J_astore_n dX6_reach_7 rfl (by decide) ?_
    refine J_aload_n dX6_reach_8 rfl ?_
    refine J_ifnull dX6_reach_9 ?_
    refine J_iload_n dX6_reach_12 rfl ?_
    refine Jz_iconst 2 dX6_reach_13 (by decide) (fun y13 he13 => ?_)
    refine Jz_icmp_eq (tgt := 23) jEq.rf he13 dX6_reach_14 (by decide) (fun c14 => ?_) (fun c14 => ?_)
    · refine Jz_bipush (-2) dX6_reach_23 (by decide) (fun y23 he23 => ?_)
      exact J_ret (r := some (.int _)) dX6_reach_25 ⟨rfl, _, rfl, rfl⟩ (⟨⟨hW, he, ⟨_, rfl, (j_rng _).1, (j_rng _).2⟩⟩, hj9, ⟨_, htl2, fun i hi => va_up_ne _ _ hi, _, va_up_self _ _ _⟩, hkr⟩)
    · refine J_iload_n dX6_reach_17 rfl ?_
      refine Jz_bipush 6 dX6_reach_18 (by decide) (fun y18 he18 => ?_)
      refine Jz_icmp_le (tgt := 26) jEq.rf he18 dX6_reach_20 (by decide) (fun c20 => ?_) (fun c20 => ?_)
      · refine Jz_iconst 1 dX6_reach_26 (by decide) (fun y26 he26 => ?_)
        refine J_istore dX6_reach_27 rfl (by decide) ?_
        refine Jz_iconst 0 dX6_reach_29 (by decide) (fun y29 he29 => ?_)
        refine J_istore dX6_reach_30 rfl (by decide) ?_
        have L32 : ∀ (N : Nat) (i4n32 : Int32) (i5n32 : Int32), (0 ≤ i5n32.toInt ∧ i5n32.toInt ≤ x2.toInt) → (i4n32.toInt = jpw (jdir x1.toInt) i5n32.toInt.toNat) → (300 - i5n32.toInt).toNat < N → J tS mX6_reach d 32 [some (.ref a0), some (.int x1), some (.int x2), some (.ref t), some (.int i4n32), some (.int i5n32)] [] V4 4 20013 (fun r V => (jPost [.inl 5, .inr 2, .inr 3, .inr 1, .inl 6, .inl 34, .inl 35, .inl 36, .inl 3, .inl 10, .inl 11, .inl 9] V0 (fun r _ => ∃ y : Int32, r = some (.int y) ∧ ((-2147483648) ≤ y.toInt) ∧ (y.toInt ≤ 2147483647))) r V ∧ jle9 V0 V ∧ (∃ f2 : Nat → Option Nat, V tl = some (.inl (5, 4, .inr (.inr (.inr (.inr f2))))) ∧ (∀ i, i ≠ j → f2 i = f i) ∧ ∃ t, f2 j = some t) ∧ jrt a0 V0 V) := by
          intro N
          induction N with
          | zero => intro i4n32 i5n32  hi5 hpw hm; exact absurd hm (Nat.not_lt_zero _)
          | succ N ih =>
            intro i4n32 i5n32  hi5 hpw hm
            have ih32 := ih
            have hri5 := j_rng i5n32
            refine J_iload dX6_reach_32 rfl ?_
            refine J_iload_n dX6_reach_34 rfl ?_
            refine Jz_icmp_ge (tgt := 53) jEq.rf jEq.rf dX6_reach_35 (by decide) (fun c35 => ?_) (fun c35 => ?_)
            · have hall : i4n32.toInt = jpw (jdir x1.toInt) x2.toInt.toNat := by rw [hpw, show i5n32.toInt.toNat = x2.toInt.toNat by omega]
              refine J_iload dX6_reach_53 rfl ?_
              refine Jz_sipush 10000 dX6_reach_55 (by decide) (fun y55 he55 => ?_)
              refine Jz_icmp_le (tgt := 64) jEq.rf he55 dX6_reach_58 (by decide) (fun c58 => ?_) (fun c58 => ?_)
              · refine J_aload_n dX6_reach_64 rfl ?_
                obtain ⟨fs65, hO65, hK65⟩ := WT_obj hW id hbt
                obtain ⟨w65, hF65, b65, rfl, hb65⟩ := hK65.2 9 (.inr (some (.inl 9))) rfl
                refine J_get jf_X6_190 dX6_reach_65 hO65 hF65 ?_
                refine J_iload_n dX6_reach_68 rfl ?_
                obtain ⟨n69o, f69o, hA69o, hN69o, hM69o, hv69o⟩ := WT_arrI (r := (-2147483648, 2147483647)) hW id rfl hb65
                obtain rfl := hM69o 7 rfl
                clear hN69o hM69o
                refine J_callS2 moX6_cell jw_ml_X6_110 jw_st_X6_cell dX6_reach_69 (w_X6_cell_x (d - 1) _ _ _ hA69o (by decide) rfl (by omega) (by omega)) (by omega) (Nat.zero_le _) (Nat.zero_le _) (Nat.le_of_ble_eq_true rfl) (fun r69 V69 h69 => ?_)
                obtain ⟨⟨y69, rfl, hf69⟩, hE69⟩ := h69
                have hE69 := hE69.symm
                subst hE69
                · refine Jz_iconst (-1) dX6_reach_72 (by decide) (fun y72 he72 => ?_)
                  refine Jz_icmp_ne (tgt := 102) jEq.rf he72 dX6_reach_73 (by decide) (fun c73 => ?_) (fun c73 => ?_)
                  · refine J_aload_n dX6_reach_102 rfl ?_
                    refine J_get jf_X6_190 dX6_reach_103 hO65 hF65 ?_
                    refine J_iload_n dX6_reach_106 rfl ?_
                    refine J_callS2 moX6_cell jw_ml_X6_110 jw_st_X6_cell dX6_reach_107 (w_X6_cell_x (d - 1) _ _ _ hA69o (by decide) rfl (by omega) (by omega)) (by omega) (Nat.zero_le _) (Nat.zero_le _) (Nat.le_of_ble_eq_true rfl) (fun r107 V107 h107 => ?_)
                    obtain ⟨⟨y107, rfl, hf107⟩, hE107⟩ := h107
                    have hE107 := hE107.symm
                    subst hE107
                    · exact J_ret (r := some (.int _)) dX6_reach_110 ⟨rfl, _, rfl, rfl⟩ (⟨⟨hW, he, ⟨_, rfl, (j_rng _).1, (j_rng _).2⟩⟩, hj9, ⟨_, htl2, fun i hi => va_up_ne _ _ hi, _, va_up_self _ _ _⟩, hkr⟩)
                  · refine J_aload_n dX6_reach_76 rfl ?_
                    refine J_get jf_X6_190 dX6_reach_77 hO65 hF65 ?_
                    refine J_iload_n dX6_reach_80 rfl ?_
                    refine Jc_new jn_X6_193 dX6_reach_81 (by decide) (by decide) hW (fun q81 V81 hn81 hQ81 hk81 hW hx81 => ?_)
                    have hkr := hkr.trans he.1 (jrt.of hx81 (jdis_of rfl))
                    have he := he.trans (hx81.sub (jsub_of rfl))
                    have hj9 := hj9.trans (jle9.of hx81 (jnot_of rfl))
                    have ha0 := ha0.mono hx81.1
                    have htlk := htlk.mono hx81.1
                    have hbt := hbt.mono hx81.1
                    have hb65 := hb65.mono hx81.1
                    have hx := hx81.2 _ _ hx (jnot_of rfl)
                    have hKx := hKx.mono hx81.1
                    have hO65 := hx81.2 _ _ hO65 (jnot_of rfl)
                    have hK65 := hK65.mono hx81.1
                    have htl2 := hx81.2 _ _ htl2 (jnot_of rfl)
                    have hA69o := hx81.2 _ _ hA69o (jnot_of rfl)
                    refine J_dup dX6_reach_84 rfl ?_
                    refine J_iload_n dX6_reach_85 rfl ?_
                    refine J_iload_n dX6_reach_86 rfl ?_
                    refine J_iload dX6_reach_87 rfl ?_
                    refine J_callI3 moX5_init rfl rfl jw_ml_X6_195 jw_im_X5_init dX6_reach_89 (w_X5_init (d - 1) _ _ _ _ _ (by omega) hW hQ81) (by omega) (by decide) (by decide) (Nat.le_of_ble_eq_true rfl) (fun r89 V89 h89 => ?_)
                    obtain ⟨rfl, hW, hx89, hj899⟩ := h89
                    have hkr := hkr.trans he.1 (jrt.of hx89 (jdis_of rfl))
                    have he := he.trans (hx89.sub (jsub_of rfl))
                    have hj9 := hj9.trans (jle9.of hx89 (jnot_of rfl))
                    have ha0 := ha0.mono hx89.1
                    have htlk := htlk.mono hx89.1
                    have hbt := hbt.mono hx89.1
                    have hb65 := hb65.mono hx89.1
                    have hx := hx89.2 _ _ hx (jnot_of rfl)
                    have hKx := hKx.mono hx89.1
                    have hO65 := hx89.2 _ _ hO65 (jnot_of rfl)
                    have hK65 := hK65.mono hx89.1
                    have htl2 := hx89.2 _ _ htl2 (jnot_of rfl)
                    have hA69o := hx89.2 _ _ hA69o (jnot_of rfl)
                    refine J_aload_n dX6_reach_92 rfl ?_
                    obtain ⟨w93, hF93, b93, rfl, hb93⟩ := hKx.2 2 (.inr (some (.inr 1))) rfl
                    refine J_get jf_X6_22 dX6_reach_93 hx hF93 ?_
                    refine Jw_callV1 (q9 := (RX5, TX5, 7)) moX5_countReached jw_ml_X6_198 jw_im_X5_countReached jw_se_X5_countReached hj899 rfl rfl dX6_reach_96 (w_X5_countReached (d - 1) _ q81 b93 (by omega) hW hj899 hb93) (by omega) (Nat.zero_le _) (Nat.zero_le _) (Nat.le_of_ble_eq_true rfl) (fun r96 V96 h96 => ?_)
                    obtain ⟨h96, hX96_0⟩ := h96
                    obtain ⟨hW, hx96, hr96⟩ := h96
                    have hkr := hkr.trans he.1 (jrt.call hx hF93 hX96_0)
                    have he := he.trans (hx96.sub (jsub_of rfl))
                    have hj9 := hj9.trans (jle9.of hx96 (jnot_of rfl))
                    have ha0 := ha0.mono hx96.1
                    have htlk := htlk.mono hx96.1
                    have hbt := hbt.mono hx96.1
                    have hb65 := hb65.mono hx96.1
                    have hb93 := hb93.mono hx96.1
                    have hx := hx96.2 _ _ hx (jnot_of rfl)
                    have hKx := hKx.mono hx96.1
                    have hO65 := hx96.2 _ _ hO65 (jnot_of rfl)
                    have hK65 := hK65.mono hx96.1
                    have htl2 := hx96.2 _ _ htl2 (jnot_of rfl)
                    have hA69o := hx96.2 _ _ hA69o (jnot_of rfl)
                    obtain ⟨y96, rfl, hl96, hh96⟩ := hr96
                    refine J_callS3 moX6_put jw_ml_X6_183 jw_st_X6_put dX6_reach_99 (w_X6_put_x (d - 1) _ _ _ _ hW hA69o (by omega) (by omega) (by omega)) (by omega) (Nat.zero_le _) (Nat.zero_le _) (Nat.le_of_ble_eq_true rfl) (fun r99 V99 h99 => ?_)
                    obtain ⟨rfl, hW, hx99, hj99, G99, hA99, hp99, hc99⟩ := h99
                    obtain ⟨hN99, hv99⟩ := WT_rngI (r := (-2147483648, 2147483647)) hW id rfl hA99
                    clear hN99
                    have hkr := hkr.trans he.1 (jrt.of hx99 (jdis_of rfl))
                    have he := he.trans (hx99.sub (jsub_of rfl))
                    have hj9 := hj9.trans hj99
                    have ha0 := ha0.mono hx99.1
                    have htlk := htlk.mono hx99.1
                    have hbt := hbt.mono hx99.1
                    have hb65 := hb65.mono hx99.1
                    have hb93 := hb93.mono hx99.1
                    have hx := hx99.2 _ _ hx (jnot_of rfl)
                    have hKx := hKx.mono hx99.1
                    have hO65 := hx99.2 _ _ hO65 (jnot_of rfl)
                    have hK65 := hK65.mono hx99.1
                    have htl2 := hx99.2 _ _ htl2 (jnot_of rfl)
                    · refine J_aload_n dX6_reach_102 rfl ?_
                      refine J_get jf_X6_190 dX6_reach_103 hO65 hF65 ?_
                      refine J_iload_n dX6_reach_106 rfl ?_
                      refine J_callS2 moX6_cell jw_ml_X6_110 jw_st_X6_cell dX6_reach_107 (w_X6_cell_x (d - 1) _ _ _ hA99 (by decide) rfl (by omega) (by omega)) (by omega) (Nat.zero_le _) (Nat.zero_le _) (Nat.le_of_ble_eq_true rfl) (fun r107 V107 h107 => ?_)
                      obtain ⟨⟨y107, rfl, hf107⟩, hE107⟩ := h107
                      have hE107 := hE107.symm
                      subst hE107
                      · exact J_ret (r := some (.int _)) dX6_reach_110 ⟨rfl, _, rfl, rfl⟩ (⟨⟨hW, he, ⟨_, rfl, (j_rng _).1, (j_rng _).2⟩⟩, hj9, ⟨_, htl2, fun i hi => va_up_ne _ _ hi, _, va_up_self _ _ _⟩, hkr⟩)
              · refine Jz_bipush (-5) dX6_reach_61 (by decide) (fun y61 he61 => ?_)
                exact J_ret (r := some (.int _)) dX6_reach_63 ⟨rfl, _, rfl, rfl⟩ (⟨⟨hW, he, ⟨_, rfl, (j_rng _).1, (j_rng _).2⟩⟩, hj9, ⟨_, htl2, fun i hi => va_up_ne _ _ hi, _, va_up_self _ _ _⟩, hkr⟩)
            · refine J_iload dX6_reach_38 rfl ?_
              refine J_iload_n dX6_reach_40 rfl ?_
              refine J_callS1 moX0_directions jw_ml_X6_187 jw_st_X0_directions dX6_reach_41 (w_X0_directions_z (d - 1) _ x1 (by omega)   ) (by omega) (Nat.zero_le _) (Nat.zero_le _) (Nat.le_of_ble_eq_true rfl) (fun r41 V41 h41 => ?_)
              obtain ⟨⟨y41, rfl, hl41, hh41, hP41_0⟩, hE41⟩ := h41
              have hE41 := hE41.symm
              subst hE41
              have hz41 : jEq y41.toInt (jdir (x1.toInt)) := hP41_0
              simp only [hP41_0] at hl41 hh41
              clear hP41_0
              have hjd := jdir_cases x1.toInt
              have hq1 : i4n32.toInt * jdir x1.toInt = jpw (jdir x1.toInt) (i5n32.toInt.toNat + 1) := by rw [hpw, Int.mul_comm]; rfl
              have hq2 := jpw_le6 (d := jdir x1.toInt) (by omega) (by omega) (n := i5n32.toInt.toNat + 1) (by omega)
              have hq3 := jpw_pos (d := jdir x1.toInt) (by omega) (i5n32.toInt.toNat + 1)
              refine Jz_imul jEq.rf hz41 dX6_reach_44 (by omega) (by omega) (fun y44 he44 => ?_)
              refine J_istore dX6_reach_45 rfl (by decide) ?_
              refine Jz_iinc 1 dX6_reach_47 rfl rfl (by decide) jEq.rf (by decide) (by omega) (by omega) (fun y47 he47 => ?_)
              refine J_goto (tgt := 32) dX6_reach_50 (by decide) ?_
              refine J.mask [true, true, true, true, true, true] ?_
              exact ih32  y44 y47  (by (try simp only [he44.eq, he47.eq, true_and, and_true]) <;> omega) (by rw [he44.eq, Int.mul_comm, hpw, he47.eq, show (i5n32.toInt + 1).toNat = i5n32.toInt.toNat + 1 by omega]; rfl) (by (try simp only [he44.eq, he47.eq, true_and, and_true]) <;> omega)
        refine J.mask [true, true, true, true, true, true] ?_
        exact L32 _  y26 y29    (by (try simp only [he26.eq, he29.eq, true_and, and_true]) <;> omega) (by rw [he26.eq, he29.eq]; rfl) (Nat.lt_succ_self _)
      · refine Jz_bipush (-2) dX6_reach_23 (by decide) (fun y23 he23 => ?_)
        exact J_ret (r := some (.int _)) dX6_reach_25 ⟨rfl, _, rfl, rfl⟩ (⟨⟨hW, he, ⟨_, rfl, (j_rng _).1, (j_rng _).2⟩⟩, hj9, ⟨_, htl2, fun i hi => va_up_ne _ _ hi, _, va_up_self _ _ _⟩, hkr⟩)
set_option maxRecDepth 100000 in
set_option maxHeartbeats 8000000 in
theorem w_X6_board_z {tS : jTS} (d : Nat) (V0 : jH) (a0 : Nat) (x1 : Int32) (x2 : Int32) (hd : 3 ≤ d) (hW : WT V0) (ha0 : jis V0 (.inr 4) a0) : jTot tS mX6_board d [.ref a0, .int x1, .int x2] V0 0 0 (jPost [.inr 0] V0 (fun r _ => ∃ y : Int32, r = some (.int y) ∧ ((-2147483648) ≤ y.toInt) ∧ (y.toInt ≤ 2147483647) ∧ ((y.toInt = 1 ∧ 2 ≤ x1.toInt ∧ x1.toInt ≤ 6 ∧ 2 ≤ x2.toInt ∧ x2.toInt ≤ 6) ∨ (y.toInt = -2 ∧ ¬ (2 ≤ x1.toInt ∧ x1.toInt ≤ 6 ∧ 2 ≤ x2.toInt ∧ x2.toInt ≤ 6))))) := by
  refine jTot.of_J [some (.ref a0), some (.int x1), some (.int x2)] moX6_board (Nat.le_of_ble_eq_true rfl) rfl ?_
  have hrx1 := j_rng x1
  have hrx2 := j_rng x2
  have he : jeff [.inr 0] V0 V0 := jeff.refl _ _
  refine J_iload_n dX6_board_0 rfl ?_
  refine Jz_iconst 2 dX6_board_1 (by decide) (fun y1 he1 => ?_)
  refine Jz_icmp_lt (tgt := 22) jEq.rf he1 dX6_board_2 (by decide) (fun c2 => ?_) (fun c2 => ?_)
  · refine Jz_bipush (-2) dX6_board_22 (by decide) (fun y22 he22 => ?_)
    exact J_ret (r := some (.int _)) dX6_board_24 ⟨rfl, _, rfl, rfl⟩ (⟨hW, he, ⟨_, rfl, (j_rng _).1, (j_rng _).2, (by (try simp only [he22.eq, true_and, and_true]) <;> omega)⟩⟩)
  · refine J_iload_n dX6_board_5 rfl ?_
    refine Jz_bipush 6 dX6_board_6 (by decide) (fun y6 he6 => ?_)
    refine Jz_icmp_gt (tgt := 22) jEq.rf he6 dX6_board_8 (by decide) (fun c8 => ?_) (fun c8 => ?_)
    · refine Jz_bipush (-2) dX6_board_22 (by decide) (fun y22 he22 => ?_)
      exact J_ret (r := some (.int _)) dX6_board_24 ⟨rfl, _, rfl, rfl⟩ (⟨hW, he, ⟨_, rfl, (j_rng _).1, (j_rng _).2, (by (try simp only [he22.eq, true_and, and_true]) <;> omega)⟩⟩)
    · refine J_iload_n dX6_board_11 rfl ?_
      refine Jz_iconst 2 dX6_board_12 (by decide) (fun y12 he12 => ?_)
      refine Jz_icmp_lt (tgt := 22) jEq.rf he12 dX6_board_13 (by decide) (fun c13 => ?_) (fun c13 => ?_)
      · refine Jz_bipush (-2) dX6_board_22 (by decide) (fun y22 he22 => ?_)
        exact J_ret (r := some (.int _)) dX6_board_24 ⟨rfl, _, rfl, rfl⟩ (⟨hW, he, ⟨_, rfl, (j_rng _).1, (j_rng _).2, (by (try simp only [he22.eq, true_and, and_true]) <;> omega)⟩⟩)
      · refine J_iload_n dX6_board_16 rfl ?_
        refine Jz_bipush 6 dX6_board_17 (by decide) (fun y17 he17 => ?_)
        refine Jz_icmp_le (tgt := 25) jEq.rf he17 dX6_board_19 (by decide) (fun c19 => ?_) (fun c19 => ?_)
        · refine J_aload_n dX6_board_25 rfl ?_
          obtain ⟨fs26, hO26, hK26⟩ := WT_obj hW id ha0
          obtain ⟨w26, hF26, b26, rfl, hb26⟩ := hK26.2 6 (.inr (some (.inr 0))) rfl
          refine J_get jf_X6_42 dX6_board_26 hO26 hF26 ?_
          refine J_iload_n dX6_board_29 rfl ?_
          refine J_iload_n dX6_board_30 rfl ?_
          refine Jw_callV2 (q9 := (RX2, TX2, 9)) moX2_lay jw_ml_X6_202 jw_im_X2_lay jw_se_X2_lay hb26 rfl rfl dX6_board_31 (w_X2_lay (d - 1) _ b26 x1 x2 (by omega) hW id hb26) (by omega) (Nat.zero_le _) (Nat.zero_le _) (Nat.le_of_ble_eq_true rfl) (fun r31 V31 h31 => ?_)
          obtain ⟨hW, hx31, hr31⟩ := h31
          have he := he.trans (hx31.sub (jsub_of rfl))
          have ha0 := ha0.mono hx31.1
          have hb26 := hb26.mono hx31.1
          have hO26 := hx31.2 _ _ hO26 (jnot_of rfl)
          have hK26 := hK26.mono hx31.1
          cases hr31
          refine Jz_iconst 1 dX6_board_34 (by decide) (fun y34 he34 => ?_)
          exact J_ret (r := some (.int _)) dX6_board_35 ⟨rfl, _, rfl, rfl⟩ (⟨hW, he, ⟨_, rfl, (j_rng _).1, (j_rng _).2, (by (try simp only [he34.eq, true_and, and_true]) <;> omega)⟩⟩)
        · refine Jz_bipush (-2) dX6_board_22 (by decide) (fun y22 he22 => ?_)
          exact J_ret (r := some (.int _)) dX6_board_24 ⟨rfl, _, rfl, rfl⟩ (⟨hW, he, ⟨_, rfl, (j_rng _).1, (j_rng _).2, (by (try simp only [he22.eq, true_and, and_true]) <;> omega)⟩⟩)
set_option maxRecDepth 100000 in
set_option maxHeartbeats 8000000 in
theorem w_X6_walk_zold {tS : jTS} (d : Nat) (V0 : jH) (a0 : Nat) (x1 : Int32) (v1 : Int32) (hd : 2 ≤ d) (hW : WT V0) (ha0 : jis V0 (.inr 4) a0) (hf_v1 : jfI V0 a0 4 1 v1) (hp0 : v1.toInt = 16) : jTot tS mX6_walk d [.ref a0, .int x1] V0 0 0 (fun r V => (fun r _ => ∃ y : Int32, r = some (.int y) ∧ ((-2147483648) ≤ y.toInt) ∧ (y.toInt ≤ 2147483647) ∧ ((¬ (0 ≤ x1.toInt ∧ x1.toInt ≤ 3) ∧ y.toInt = -2) ∨ (0 ≤ x1.toInt ∧ x1.toInt ≤ 3 ∧ y.toInt = -4))) r V ∧ V = V0) := by
  refine jTot.of_J [some (.ref a0), some (.int x1), none] moX6_walk (Nat.le_of_ble_eq_true rfl) rfl ?_
  have hrx1 := j_rng x1
  have he : jeff [] V0 V0 := jeff.refl _ _
  obtain ⟨fs_a0, hO_a0, hK_a0⟩ := WT_obj hW id ha0
  have hF_v1 := hf_v1.get hO_a0
  have hrv1 : 0 ≤ v1.toInt ∧ v1.toInt ≤ 16 := jok_rngI hK_a0 rfl hF_v1
  refine J_iload_n dX6_walk_0 rfl ?_
  refine J_callS1 moX0_isGround jw_ml_X6_46 jw_st_X0_isGround dX6_walk_1 (w_X0_isGround_z (d - 1) _ x1 (by omega)   ) (by omega) (Nat.zero_le _) (Nat.zero_le _) (Nat.le_of_ble_eq_true rfl) (fun r1 V1 h1 => ?_)
  obtain ⟨⟨y1, rfl, hl1, hh1, hP1_0⟩, hE1⟩ := h1
  have hE1 := hE1.symm
  subst hE1
  refine Jz_if_ne (tgt := 10) jEq.rf dX6_walk_4 (by decide) (fun c4 => ?_) (fun c4 => ?_)
  · refine J_aload_n dX6_walk_10 rfl ?_
    refine J_get jf_X6_15 dX6_walk_11 hO_a0 hF_v1 ?_
    refine Jz_if_lt (tgt := 29) jEq.rf dX6_walk_14 (by decide) (fun c14 => ?_) (fun c14 => ?_)
    · refine Jz_bipush (-4) dX6_walk_29 (by decide) (fun y29 he29 => ?_)
      exact J_ret (r := some (.int _)) dX6_walk_31 ⟨rfl, _, rfl, rfl⟩ (⟨⟨_, rfl, (j_rng _).1, (j_rng _).2, (by (try simp only [he29.eq, true_and, and_true]) <;> omega)⟩, rfl⟩)
    · refine J_aload_n dX6_walk_17 rfl ?_
      refine J_get jf_X6_15 dX6_walk_18 hO_a0 hF_v1 ?_
      refine J_aload_n dX6_walk_21 rfl ?_
      obtain ⟨w22, hF22, b22, rfl, hb22⟩ := hK_a0.2 0 (.inr (some (.inl 4))) rfl
      refine J_get jf_X6_11 dX6_walk_22 hO_a0 hF22 ?_
      obtain ⟨n25, f25, hA25, hN25, hM25, hv25⟩ := WT_arrR hW id rfl hb22
      obtain rfl := hM25 16 rfl
      clear hN25 hM25
      refine J_alen dX6_walk_25 hA25 rfl rfl ?_
      have he25 : jEq (Int32.ofNat 16).toInt 16 := nI_toInt (by decide)
      generalize Int32.ofNat 16 = y25 at he25 ⊢
      refine Jz_icmp_lt (tgt := 32) jEq.rf he25 dX6_walk_26 (by decide) (fun c26 => ?_) (fun c26 => ?_)
      · exact False.elim (by omega)
      · refine Jz_bipush (-4) dX6_walk_29 (by decide) (fun y29 he29 => ?_)
        exact J_ret (r := some (.int _)) dX6_walk_31 ⟨rfl, _, rfl, rfl⟩ (⟨⟨_, rfl, (j_rng _).1, (j_rng _).2, (by (try simp only [he29.eq, true_and, and_true]) <;> omega)⟩, rfl⟩)
  · refine Jz_bipush (-2) dX6_walk_7 (by decide) (fun y7 he7 => ?_)
    exact J_ret (r := some (.int _)) dX6_walk_9 ⟨rfl, _, rfl, rfl⟩ (⟨⟨_, rfl, (j_rng _).1, (j_rng _).2, (by (try simp only [he7.eq, true_and, and_true]) <;> omega)⟩, rfl⟩)
set_option maxRecDepth 100000 in
set_option maxHeartbeats 8000000 in
theorem w_X2_numberOf_z {tS : jTS} (d : Nat) (V0 : jH) (x0 : Int32) (x1 : Int32) (hd : 0 ≤ d)  (hp0 : 0 ≤ x0.toInt) (hp1 : x0.toInt ≤ 5) (hp2 : 0 ≤ x1.toInt) (hp3 : x1.toInt ≤ 5) : jTot tS mX2_numberOf d [.int x0, .int x1] V0 0 0 (fun r V => (fun r _ => ∃ y : Int32, r = some (.int y) ∧ ((-2147483648) ≤ y.toInt) ∧ (y.toInt ≤ 2147483647) ∧ (y.toInt = 9 + x0.toInt + 8 * x1.toInt)) r V ∧ V = V0) := by
  refine jTot.of_J [some (.int x0), some (.int x1)] moX2_numberOf (Nat.le_of_ble_eq_true rfl) rfl ?_
  have hrx0 := j_rng x0
  have hrx1 := j_rng x1
  refine Jz_bipush 9 dX2_numberOf_0 (by decide) (fun y0 he0 => ?_)
  refine J_iload_n dX2_numberOf_2 rfl ?_
  refine Jz_iadd he0 jEq.rf dX2_numberOf_3 (by omega) (by omega) (fun y3 he3 => ?_)
  refine Jz_bipush 8 dX2_numberOf_4 (by decide) (fun y4 he4 => ?_)
  refine J_iload_n dX2_numberOf_6 rfl ?_
  refine Jz_imul he4 jEq.rf dX2_numberOf_7 (by omega) (by omega) (fun y7 he7 => ?_)
  refine Jz_iadd he3 he7 dX2_numberOf_8 (by omega) (by omega) (fun y8 he8 => ?_)
  exact J_ret (r := some (.int _)) dX2_numberOf_9 ⟨rfl, _, rfl, rfl⟩ (⟨⟨_, rfl, (j_rng _).1, (j_rng _).2, (by (try simp only [he8.eq, true_and, and_true]) <;> omega)⟩, rfl⟩)
set_option maxRecDepth 100000 in
set_option maxHeartbeats 8000000 in
theorem w_X2_bitOf_z {tS : jTS} (d : Nat) (V0 : jH) (x0 : Int32) (x1 : Int32) (hd : 1 ≤ d)  (hp0 : 0 ≤ x0.toInt) (hp1 : x0.toInt ≤ 5) (hp2 : 0 ≤ x1.toInt) (hp3 : x1.toInt ≤ 5) : jTot tS mX2_bitOf d [.int x0, .int x1] V0 0 0 (fun r V => (fun r _ => ∃ y : Int64, r = some (.long y) ∧ (∀ n : Nat, jbt y n = decide ((n : Int) = 9 + x0.toInt + 8 * x1.toInt))) r V ∧ V = V0) := by
  refine jTot.of_J [some (.int x0), some (.int x1)] moX2_bitOf (Nat.le_of_ble_eq_true rfl) rfl ?_
  have hrx0 := j_rng x0
  have hrx1 := j_rng x1
  refine J_lconst (v := 1) dX2_bitOf_0 rfl ?_
  refine J_iload_n dX2_bitOf_1 rfl ?_
  refine J_iload_n dX2_bitOf_2 rfl ?_
  refine J_callS2 moX2_numberOf jw_ml_X2_50 jw_st_X2_numberOf dX2_bitOf_3 (w_X2_numberOf_z (d - 1) _ x0 x1 (by omega)   (by omega) (by omega) (by omega) (by omega)) (by omega) (Nat.zero_le _) (Nat.zero_le _) (Nat.le_of_ble_eq_true rfl) (fun r3 V3 h3 => ?_)
  obtain ⟨⟨y3, rfl, hl3, hh3, hP3_0⟩, hE3⟩ := h3
  have hE3 := hE3.symm
  subst hE3
  clear hl3 hh3
  have hz3 : jEq y3.toInt (9 + (x0.toInt) + 8 * (x1.toInt)) := hP3_0
  clear hP3_0
  refine J_lshl dX2_bitOf_6 rfl ?_
  exact J_ret (r := some (.long _)) dX2_bitOf_7 ⟨rfl, rfl⟩ (⟨⟨_, rfl, (fun n => by rw [jbt_shl (by rw [hz3.eq]; omega) (by rw [hz3.eq]; omega), hz3.eq])⟩, rfl⟩)
set_option maxRecDepth 100000 in
set_option maxHeartbeats 8000000 in
theorem w_X2_isHole_z {tS : jTS} (d : Nat) (V0 : jH) (a0 : Nat) (x1 : Int32) (x2 : Int32) (op : Int64) (hd : 2 ≤ d) (hW : WT V0) (ha0 : jis V0 (.inr 0) a0) (hq_op : jfL V0 a0 0 3 op) (hp0 : 0 ≤ x1.toInt) (hp1 : x1.toInt ≤ 5) (hp2 : 0 ≤ x2.toInt) (hp3 : x2.toInt ≤ 5) : jTot tS mX2_isHole d [.ref a0, .int x1, .int x2] V0 0 0 (fun r V => (fun r _ => ∃ y : Int32, r = some (.int y) ∧ (0 ≤ y.toInt) ∧ (y.toInt ≤ 1) ∧ (jIf y 1 (jbt op (9 + x1.toInt + 8 * x2.toInt).toNat = false)) ∧ (jIf y 0 (jbt op (9 + x1.toInt + 8 * x2.toInt).toNat = true))) r V ∧ V = V0) := by
  refine jTot.of_J [some (.ref a0), some (.int x1), some (.int x2)] moX2_isHole (Nat.le_of_ble_eq_true rfl) rfl ?_
  have hrx1 := j_rng x1
  have hrx2 := j_rng x2
  have he : jeff [] V0 V0 := jeff.refl _ _
  obtain ⟨fs_a0, hO_a0, hK_a0⟩ := WT_obj hW id ha0
  have hF_op := hq_op.get hO_a0
  refine J_aload_n dX2_isHole_0 rfl ?_
  refine J_get jf_X2_22 dX2_isHole_1 hO_a0 hF_op ?_
  refine J_iload_n dX2_isHole_4 rfl ?_
  refine J_iload_n dX2_isHole_5 rfl ?_
  refine J_callS2 moX2_bitOf jw_ml_X2_46 jw_st_X2_bitOf dX2_isHole_6 (w_X2_bitOf_z (d - 1) _ x1 x2 (by omega)   (by omega) (by omega) (by omega) (by omega)) (by omega) (Nat.zero_le _) (Nat.zero_le _) (Nat.le_of_ble_eq_true rfl) (fun r6 V6 h6 => ?_)
  obtain ⟨⟨y6, rfl, hP6_0⟩, hE6⟩ := h6
  have hE6 := hE6.symm
  subst hE6
  refine J_land dX2_isHole_9 ?_
  refine J_lconst (v := 0) dX2_isHole_10 rfl ?_
  refine Jz_lcmp dX2_isHole_11 (fun y11 he11 => ?_)
  refine Jz_if_ne (tgt := 19) jEq.rf dX2_isHole_12 (by decide) (fun c12 => ?_) (fun c12 => ?_)
  · refine Jz_iconst 0 dX2_isHole_19 (by decide) (fun y19 he19 => ?_)
    exact J_ret (r := some (.int _)) dX2_isHole_20 ⟨rfl, _, rfl, (nar_b (by (try simp only [he19.eq, true_and, and_true]) <;> omega) (by (try simp only [he19.eq, true_and, and_true]) <;> omega))⟩ (⟨⟨_, rfl, (by (try simp only [he19.eq, true_and, and_true]) <;> omega), (by (try simp only [he19.eq, true_and, and_true]) <;> omega), (fun h => by rw [he19.eq] at h; omega), (fun _ => Eq.mp (Bool.not_eq_false _) (fun q => c12 (he11.mpr ((jbt_one (show ∀ n : Nat, jbt y6 n = decide (n = (9 + x1.toInt + 8 * x2.toInt).toNat) from fun n => (hP6_0 n).trans (decide_eq_decide.mpr (by omega)))).mpr q))))⟩, rfl⟩)
  · refine Jz_iconst 1 dX2_isHole_15 (by decide) (fun y15 he15 => ?_)
    refine J_goto (tgt := 20) dX2_isHole_16 (by decide) ?_
    exact J_ret (r := some (.int _)) dX2_isHole_20 ⟨rfl, _, rfl, (nar_b (by (try simp only [he15.eq, true_and, and_true]) <;> omega) (by (try simp only [he15.eq, true_and, and_true]) <;> omega))⟩ (⟨⟨_, rfl, (by (try simp only [he15.eq, true_and, and_true]) <;> omega), (by (try simp only [he15.eq, true_and, and_true]) <;> omega), (fun _ => (jbt_one (show ∀ n : Nat, jbt y6 n = decide (n = (9 + x1.toInt + 8 * x2.toInt).toNat) from fun n => (hP6_0 n).trans (decide_eq_decide.mpr (by omega)))).mp (he11.mp c12)), (fun h => by rw [he15.eq] at h; omega)⟩, rfl⟩)
set_option maxRecDepth 100000 in
set_option maxHeartbeats 8000000 in
theorem w_X2_turnOver_z {tS : jTS} (d : Nat) (V0 : jH) (a0 : Nat) (x1 : Int32) (x2 : Int32) (op : Int64) (hd : 2 ≤ d) (hW : WT V0) (ha0 : jis V0 (.inr 0) a0) (hq_op : jfL V0 a0 0 3 op) (hp0 : 0 ≤ x1.toInt) (hp1 : x1.toInt ≤ 5) (hp2 : 0 ≤ x2.toInt) (hp3 : x2.toInt ≤ 5) : jTot tS mX2_turnOver d [.ref a0, .int x1, .int x2] V0 0 0 (fun r V => (jPost [.inr 0] V0 rV) r V ∧ (∃ op2 : Int64, jfL V a0 0 3 op2 ∧ ∀ n : Nat, jbt op2 n = (jbt op n ^^ decide (n = (9 + x1.toInt + 8 * x2.toInt).toNat))) ∧ jkc 0 [1, 2] V0 V) := by
  refine jTot.of_J [some (.ref a0), some (.int x1), some (.int x2)] moX2_turnOver (Nat.le_of_ble_eq_true rfl) rfl ?_
  have hrx1 := j_rng x1
  have hrx2 := j_rng x2
  have he : jeff [.inr 0] V0 V0 := jeff.refl _ _
  have hkp : jkc 0 [1, 2] V0 V0 := jkc.rf
  obtain ⟨fs_a0, hO_a0, hK_a0⟩ := WT_obj hW id ha0
  have hF_op := hq_op.get hO_a0
  refine J_aload_n dX2_turnOver_0 rfl ?_
  refine J_dup dX2_turnOver_1 rfl ?_
  refine J_get jf_X2_22 dX2_turnOver_2 hO_a0 hF_op ?_
  refine J_iload_n dX2_turnOver_5 rfl ?_
  refine J_iload_n dX2_turnOver_6 rfl ?_
  refine J_callS2 moX2_bitOf jw_ml_X2_46 jw_st_X2_bitOf dX2_turnOver_7 (w_X2_bitOf_z (d - 1) _ x1 x2 (by omega)   (by omega) (by omega) (by omega) (by omega)) (by omega) (Nat.zero_le _) (Nat.zero_le _) (Nat.le_of_ble_eq_true rfl) (fun r7 V7 h7 => ?_)
  obtain ⟨⟨y7, rfl, hP7_0⟩, hE7⟩ := h7
  have hE7 := hE7.symm
  subst hE7
  refine J_lxor dX2_turnOver_10 ?_
  refine Jz_putL hO_a0 hW id rfl jf_X2_22 jt_X2_3 dX2_turnOver_11 rfl rfl (fun V11 fs11 hW hx11 hO11 hS11 hT11 hB11 => ?_)
  have hK11 : jokO _ (jFs 0) fs11 := hW _ _ id hO11
  have he := he.trans (hx11.sub (jsub_of rfl))
  have hkp := hkp.trans (jkc.put hO_a0 hO11 hT11 hB11 (by decide))
  have ha0 := ha0.mono hx11.1
  refine J_aload_n dX2_turnOver_14 rfl ?_
  refine Jz_iconst 0 dX2_turnOver_15 (by decide) (fun y15 he15 => ?_)
  refine Jz_putI hO11 hW id rfl jf_X2_35 jt_X2_7 he15 dX2_turnOver_16 (by omega) (by omega) (fun _ h => ⟨nar_b (by omega) (by omega), fit_b (by omega) (by omega)⟩) (fun V16 fs16 hW hx16 hO16 hS16 hT16 hB16 => ?_)
  have hK16 : jokO _ (jFs 0) fs16 := hW _ _ id hO16
  have hF16_3 := (hT16 3 (by decide)).trans hS11
  have he := he.trans (hx16.sub (jsub_of rfl))
  have hkp := hkp.trans (jkc.put hO11 hO16 hT16 hB16 (by decide))
  have ha0 := ha0.mono hx16.1
  exact J_ret (r := none) dX2_turnOver_19 ⟨rfl, rfl⟩ (⟨⟨hW, he, rfl⟩, ⟨_, ⟨_, hO16, hF16_3⟩, fun n => by rw [jbt_xor, hP7_0 n]; exact congrArg _ (decide_eq_decide.mpr (by omega))⟩, hkp⟩)
set_option maxRecDepth 100000 in
set_option maxHeartbeats 8000000 in
theorem w_X2_isCorner_z {tS : jTS} (d : Nat) (V0 : jH) (a0 : Nat) (x1 : Int32) (x2 : Int32) (w1 : Int32) (h1 : Int32) (hd : 0 ≤ d) (hW : WT V0) (ha0 : jis V0 (.inr 0) a0) (hf_w1 : jfI V0 a0 0 1 w1) (hf_h1 : jfI V0 a0 0 2 h1) (hp0 : 2 ≤ w1.toInt) (hp1 : 2 ≤ h1.toInt) : jTot tS mX2_isCorner d [.ref a0, .int x1, .int x2] V0 0 0 (fun r V => (fun r _ => ∃ y : Int32, r = some (.int y) ∧ (0 ≤ y.toInt) ∧ (y.toInt ≤ 1) ∧ ((y.toInt = 1 ∧ (x1.toInt = 0 ∧ x2.toInt = 0 ∨ x1.toInt = w1.toInt - 1 ∧ x2.toInt = h1.toInt - 1)) ∨ (y.toInt = 0 ∧ ¬ (x1.toInt = 0 ∧ x2.toInt = 0 ∨ x1.toInt = w1.toInt - 1 ∧ x2.toInt = h1.toInt - 1)))) r V ∧ V = V0) := by
  refine jTot.of_J [some (.ref a0), some (.int x1), some (.int x2)] moX2_isCorner (Nat.le_of_ble_eq_true rfl) rfl ?_
  have hrx1 := j_rng x1
  have hrx2 := j_rng x2
  have he : jeff [] V0 V0 := jeff.refl _ _
  obtain ⟨fs_a0, hO_a0, hK_a0⟩ := WT_obj hW id ha0
  have hF_w1 := hf_w1.get hO_a0
  have hrw1 : (-2147483648) ≤ w1.toInt ∧ w1.toInt ≤ 2147483647 := jok_rngI hK_a0 rfl hF_w1
  have hF_h1 := hf_h1.get hO_a0
  have hrh1 : (-2147483648) ≤ h1.toInt ∧ h1.toInt ≤ 2147483647 := jok_rngI hK_a0 rfl hF_h1
  refine J_iload_n dX2_isCorner_0 rfl ?_
  refine Jz_if_ne (tgt := 8) jEq.rf dX2_isCorner_1 (by decide) (fun c1 => ?_) (fun c1 => ?_)
  · refine J_iload_n dX2_isCorner_8 rfl ?_
    refine J_aload_n dX2_isCorner_9 rfl ?_
    refine J_get jf_X2_15 dX2_isCorner_10 hO_a0 hF_w1 ?_
    refine Jz_iconst 1 dX2_isCorner_13 (by decide) (fun y13 he13 => ?_)
    refine Jz_isub jEq.rf he13 dX2_isCorner_14 (by omega) (by omega) (fun y14 he14 => ?_)
    refine Jz_icmp_ne (tgt := 32) jEq.rf he14 dX2_isCorner_15 (by decide) (fun c15 => ?_) (fun c15 => ?_)
    · refine Jz_iconst 0 dX2_isCorner_32 (by decide) (fun y32 he32 => ?_)
      exact J_ret (r := some (.int _)) dX2_isCorner_33 ⟨rfl, _, rfl, (nar_b (by (try simp only [he32.eq, true_and, and_true]) <;> omega) (by (try simp only [he32.eq, true_and, and_true]) <;> omega))⟩ (⟨⟨_, rfl, (by (try simp only [he32.eq, true_and, and_true]) <;> omega), (by (try simp only [he32.eq, true_and, and_true]) <;> omega), (by (try simp only [he32.eq, true_and, and_true]) <;> omega)⟩, rfl⟩)
    · refine J_iload_n dX2_isCorner_18 rfl ?_
      refine J_aload_n dX2_isCorner_19 rfl ?_
      refine J_get jf_X2_19 dX2_isCorner_20 hO_a0 hF_h1 ?_
      refine Jz_iconst 1 dX2_isCorner_23 (by decide) (fun y23 he23 => ?_)
      refine Jz_isub jEq.rf he23 dX2_isCorner_24 (by omega) (by omega) (fun y24 he24 => ?_)
      refine Jz_icmp_ne (tgt := 32) jEq.rf he24 dX2_isCorner_25 (by decide) (fun c25 => ?_) (fun c25 => ?_)
      · refine Jz_iconst 0 dX2_isCorner_32 (by decide) (fun y32 he32 => ?_)
        exact J_ret (r := some (.int _)) dX2_isCorner_33 ⟨rfl, _, rfl, (nar_b (by (try simp only [he32.eq, true_and, and_true]) <;> omega) (by (try simp only [he32.eq, true_and, and_true]) <;> omega))⟩ (⟨⟨_, rfl, (by (try simp only [he32.eq, true_and, and_true]) <;> omega), (by (try simp only [he32.eq, true_and, and_true]) <;> omega), (by (try simp only [he32.eq, true_and, and_true]) <;> omega)⟩, rfl⟩)
      · refine Jz_iconst 1 dX2_isCorner_28 (by decide) (fun y28 he28 => ?_)
        refine J_goto (tgt := 33) dX2_isCorner_29 (by decide) ?_
        exact J_ret (r := some (.int _)) dX2_isCorner_33 ⟨rfl, _, rfl, (nar_b (by (try simp only [he28.eq, true_and, and_true]) <;> omega) (by (try simp only [he28.eq, true_and, and_true]) <;> omega))⟩ (⟨⟨_, rfl, (by (try simp only [he28.eq, true_and, and_true]) <;> omega), (by (try simp only [he28.eq, true_and, and_true]) <;> omega), (by (try simp only [he28.eq, true_and, and_true]) <;> omega)⟩, rfl⟩)
  · refine J_iload_n dX2_isCorner_4 rfl ?_
    refine Jz_if_eq (tgt := 28) jEq.rf dX2_isCorner_5 (by decide) (fun c5 => ?_) (fun c5 => ?_)
    · refine Jz_iconst 1 dX2_isCorner_28 (by decide) (fun y28 he28 => ?_)
      refine J_goto (tgt := 33) dX2_isCorner_29 (by decide) ?_
      exact J_ret (r := some (.int _)) dX2_isCorner_33 ⟨rfl, _, rfl, (nar_b (by (try simp only [he28.eq, true_and, and_true]) <;> omega) (by (try simp only [he28.eq, true_and, and_true]) <;> omega))⟩ (⟨⟨_, rfl, (by (try simp only [he28.eq, true_and, and_true]) <;> omega), (by (try simp only [he28.eq, true_and, and_true]) <;> omega), (by (try simp only [he28.eq, true_and, and_true]) <;> omega)⟩, rfl⟩)
    · refine J_iload_n dX2_isCorner_8 rfl ?_
      refine J_aload_n dX2_isCorner_9 rfl ?_
      refine J_get jf_X2_15 dX2_isCorner_10 hO_a0 hF_w1 ?_
      refine Jz_iconst 1 dX2_isCorner_13 (by decide) (fun y13 he13 => ?_)
      refine Jz_isub jEq.rf he13 dX2_isCorner_14 (by omega) (by omega) (fun y14 he14 => ?_)
      refine Jz_icmp_ne (tgt := 32) jEq.rf he14 dX2_isCorner_15 (by decide) (fun c15 => ?_) (fun c15 => ?_)
      · refine Jz_iconst 0 dX2_isCorner_32 (by decide) (fun y32 he32 => ?_)
        exact J_ret (r := some (.int _)) dX2_isCorner_33 ⟨rfl, _, rfl, (nar_b (by (try simp only [he32.eq, true_and, and_true]) <;> omega) (by (try simp only [he32.eq, true_and, and_true]) <;> omega))⟩ (⟨⟨_, rfl, (by (try simp only [he32.eq, true_and, and_true]) <;> omega), (by (try simp only [he32.eq, true_and, and_true]) <;> omega), (by (try simp only [he32.eq, true_and, and_true]) <;> omega)⟩, rfl⟩)
      · refine J_iload_n dX2_isCorner_18 rfl ?_
        refine J_aload_n dX2_isCorner_19 rfl ?_
        refine J_get jf_X2_19 dX2_isCorner_20 hO_a0 hF_h1 ?_
        refine Jz_iconst 1 dX2_isCorner_23 (by decide) (fun y23 he23 => ?_)
        refine Jz_isub jEq.rf he23 dX2_isCorner_24 (by omega) (by omega) (fun y24 he24 => ?_)
        refine Jz_icmp_ne (tgt := 32) jEq.rf he24 dX2_isCorner_25 (by decide) (fun c25 => ?_) (fun c25 => ?_)
        · refine Jz_iconst 0 dX2_isCorner_32 (by decide) (fun y32 he32 => ?_)
          exact J_ret (r := some (.int _)) dX2_isCorner_33 ⟨rfl, _, rfl, (nar_b (by (try simp only [he32.eq, true_and, and_true]) <;> omega) (by (try simp only [he32.eq, true_and, and_true]) <;> omega))⟩ (⟨⟨_, rfl, (by (try simp only [he32.eq, true_and, and_true]) <;> omega), (by (try simp only [he32.eq, true_and, and_true]) <;> omega), (by (try simp only [he32.eq, true_and, and_true]) <;> omega)⟩, rfl⟩)
        · refine Jz_iconst 1 dX2_isCorner_28 (by decide) (fun y28 he28 => ?_)
          refine J_goto (tgt := 33) dX2_isCorner_29 (by decide) ?_
          exact J_ret (r := some (.int _)) dX2_isCorner_33 ⟨rfl, _, rfl, (nar_b (by (try simp only [he28.eq, true_and, and_true]) <;> omega) (by (try simp only [he28.eq, true_and, and_true]) <;> omega))⟩ (⟨⟨_, rfl, (by (try simp only [he28.eq, true_and, and_true]) <;> omega), (by (try simp only [he28.eq, true_and, and_true]) <;> omega), (by (try simp only [he28.eq, true_and, and_true]) <;> omega)⟩, rfl⟩)
set_option maxRecDepth 100000 in
set_option maxHeartbeats 8000000 in
theorem w_X2_lay_z {tS : jTS} (d : Nat) (V0 : jH) {p : Nat → Prop} (a0 : Nat) (x1 : Int32) (x2 : Int32) (hd : 2 ≤ d) (hW : WTx p V0) (hnp : ¬ p a0) (ha0 : jis V0 (.inr 0) a0) (hp0 : 2 ≤ x1.toInt) (hp1 : x1.toInt ≤ 6) (hp2 : 2 ≤ x2.toInt) (hp3 : x2.toInt ≤ 6) : jTot tS mX2_lay d [.ref a0, .int x1, .int x2] V0 0 0 (fun r V => (jPostP p [.inr 0] V0 rV) r V ∧ (∃ op2 : Int64, jfL V a0 0 3 op2 ∧ ∀ n : Nat, jbt op2 n = true ↔ ∃ x y : Nat, ((x : Int) < x1.toInt ∧ (y : Int) < x2.toInt) ∧ n = 9 + x + 8 * y) ∧ (∃ w1 : Int32, jfI V a0 0 1 w1 ∧ (w1.toInt = x1.toInt)) ∧ (∃ h1 : Int32, jfI V a0 0 2 h1 ∧ (h1.toInt = x2.toInt))) := by
  refine jTot.of_J [some (.ref a0), some (.int x1), some (.int x2), none, none] moX2_lay (Nat.le_of_ble_eq_true rfl) rfl ?_
  have hrx1 := j_rng x1
  have hrx2 := j_rng x2
  have he : jeff [.inr 0] V0 V0 := jeff.refl _ _
  refine J_aload_n dX2_lay_0 rfl ?_
  refine J_iload_n dX2_lay_1 rfl ?_
  obtain ⟨fs2o, hO2o, hK2o⟩ := WT_obj hW hnp ha0
  refine Jz_putI hO2o hW hnp rfl jf_X2_15 jt_X2_1 jEq.rf dX2_lay_2 (j_rng _).1 (j_rng _).2 (fun _ _ => ⟨rfl, rfl⟩) (fun V2 fs2 hW hx2 hO2 hS2 hT2 hB2 => ?_)
  have hK2 : jokO _ (jFs 0) fs2 := hW _ _ hnp hO2
  have he := he.trans (hx2.sub (jsub_of rfl))
  have ha0 := ha0.mono hx2.1
  refine J_aload_n dX2_lay_5 rfl ?_
  refine J_iload_n dX2_lay_6 rfl ?_
  refine Jz_putI hO2 hW hnp rfl jf_X2_19 jt_X2_2 jEq.rf dX2_lay_7 (j_rng _).1 (j_rng _).2 (fun _ _ => ⟨rfl, rfl⟩) (fun V7 fs7 hW hx7 hO7 hS7 hT7 hB7 => ?_)
  have hK7 : jokO _ (jFs 0) fs7 := hW _ _ hnp hO7
  have hF7_1 := (hT7 1 (by decide)).trans hS2
  have he := he.trans (hx7.sub (jsub_of rfl))
  have ha0 := ha0.mono hx7.1
  refine J_aload_n dX2_lay_10 rfl ?_
  refine J_lconst (v := 0) dX2_lay_11 rfl ?_
  refine Jz_putL hO7 hW hnp rfl jf_X2_22 jt_X2_3 dX2_lay_12 rfl rfl (fun V12 fs12 hW hx12 hO12 hS12 hT12 hB12 => ?_)
  have hK12 : jokO _ (jFs 0) fs12 := hW _ _ hnp hO12
  have hF12_2 := (hT12 2 (by decide)).trans hS7
  have hF12_1 := (hT12 1 (by decide)).trans hF7_1
  have he := he.trans (hx12.sub (jsub_of rfl))
  have ha0 := ha0.mono hx12.1
  refine Jz_iconst 0 dX2_lay_15 (by decide) (fun y15 he15 => ?_)
  refine J_istore_n dX2_lay_16 rfl (by decide) ?_
  have L17 : ∀ (N : Nat) (V : jH) (i3n17 : Int32) (gs17a0 : List Value) (g3n17 : Int64), WTx p V → jeff [.inr 0] V0 V → (jis V (.inr 0) a0) → (V a0 = some (.inr (0, gs17a0))) → (gs17a0[3]? = some (.long g3n17)) → (gs17a0[2]? = some (.int x2)) → (gs17a0[1]? = some (.int x1)) → (0 ≤ i3n17.toInt ∧ i3n17.toInt ≤ x2.toInt) → (∀ n : Nat, jbt g3n17 n = true ↔ ∃ x y : Nat, ((x : Int) < x1.toInt ∧ (y : Int) < i3n17.toInt) ∧ n = 9 + x + 8 * y) → (300 - i3n17.toInt).toNat < N → J tS mX2_lay d 17 [some (.ref a0), some (.int x1), some (.int x2), some (.int i3n17), none] [] V 0 0 (fun r V => (jPostP p [.inr 0] V0 rV) r V ∧ (∃ op2 : Int64, jfL V a0 0 3 op2 ∧ ∀ n : Nat, jbt op2 n = true ↔ ∃ x y : Nat, ((x : Int) < x1.toInt ∧ (y : Int) < x2.toInt) ∧ n = 9 + x + 8 * y) ∧ (∃ w1 : Int32, jfI V a0 0 1 w1 ∧ (w1.toInt = x1.toInt)) ∧ (∃ h1 : Int32, jfI V a0 0 2 h1 ∧ (h1.toInt = x2.toInt))) := by
    intro N
    induction N with
    | zero => intro V i3n17 gs17a0 g3n17 hW he ha0 hOgs17a0 hFgs17a0_3 hFgs17a0_2 hFgs17a0_1 hi3 hb hm; exact absurd hm (Nat.not_lt_zero _)
    | succ N ih =>
      intro V i3n17 gs17a0 g3n17 hW he ha0 hOgs17a0 hFgs17a0_3 hFgs17a0_2 hFgs17a0_1 hi3 hb hm
      have ih17 := ih
      have hri3 := j_rng i3n17
      have hKgs17a0 : jokO V (jFs 0) gs17a0 := hW _ _ hnp hOgs17a0
      refine J_iload_n dX2_lay_17 rfl ?_
      refine J_aload_n dX2_lay_18 rfl ?_
      refine J_get jf_X2_19 dX2_lay_19 hOgs17a0 hFgs17a0_2 ?_
      refine Jz_icmp_ge (tgt := 64) jEq.rf jEq.rf dX2_lay_22 (by decide) (fun c22 => ?_) (fun c22 => ?_)
      · refine J_aload_n dX2_lay_64 rfl ?_
        refine Jz_iconst 0 dX2_lay_65 (by decide) (fun y65 he65 => ?_)
        refine Jz_putI hOgs17a0 hW hnp rfl jf_X2_35 jt_X2_7 he65 dX2_lay_66 (by omega) (by omega) (fun _ h => ⟨nar_b (by omega) (by omega), fit_b (by omega) (by omega)⟩) (fun V66 fs66 hW hx66 hO66 hS66 hT66 hB66 => ?_)
        have hK66 : jokO _ (jFs 0) fs66 := hW _ _ hnp hO66
        have hF66_3 := (hT66 3 (by decide)).trans hFgs17a0_3
        have hF66_2 := (hT66 2 (by decide)).trans hFgs17a0_2
        have hF66_1 := (hT66 1 (by decide)).trans hFgs17a0_1
        have he := he.trans (hx66.sub (jsub_of rfl))
        have ha0 := ha0.mono hx66.1
        exact J_ret (r := none) dX2_lay_69 ⟨rfl, rfl⟩ (⟨⟨hW, he, rfl⟩, ⟨_, ⟨_, hO66, hF66_3⟩, fun n => (hb n).trans ⟨fun ⟨x, y, q, e⟩ => ⟨x, y, by omega, e⟩, fun ⟨x, y, q, e⟩ => ⟨x, y, by omega, e⟩⟩⟩, ⟨_, ⟨_, hO66, hF66_1⟩, (by omega)⟩, ⟨_, ⟨_, hO66, hF66_2⟩, (by omega)⟩⟩)
      · refine Jz_iconst 0 dX2_lay_25 (by decide) (fun y25 he25 => ?_)
        refine J_istore dX2_lay_26 rfl (by decide) ?_
        have L28 : ∀ (N : Nat) (V : jH) (i4n28 : Int32) (gs28a0 : List Value) (g3n28 : Int64), WTx p V → jeff [.inr 0] V0 V → (jis V (.inr 0) a0) → (V a0 = some (.inr (0, gs28a0))) → (gs28a0[3]? = some (.long g3n28)) → (gs28a0[2]? = some (.int x2)) → (gs28a0[1]? = some (.int x1)) → (0 ≤ i4n28.toInt ∧ i4n28.toInt ≤ x1.toInt) → (∀ n : Nat, jbt g3n28 n = true ↔ ∃ x y : Nat, ((x : Int) < x1.toInt ∧ (y : Int) < i3n17.toInt ∨ (y : Int) = i3n17.toInt ∧ (x : Int) < i4n28.toInt) ∧ n = 9 + x + 8 * y) → (300 - i4n28.toInt).toNat < N → J tS mX2_lay d 28 [some (.ref a0), some (.int x1), some (.int x2), some (.int i3n17), some (.int i4n28)] [] V 0 0 (fun r V => (jPostP p [.inr 0] V0 rV) r V ∧ (∃ op2 : Int64, jfL V a0 0 3 op2 ∧ ∀ n : Nat, jbt op2 n = true ↔ ∃ x y : Nat, ((x : Int) < x1.toInt ∧ (y : Int) < x2.toInt) ∧ n = 9 + x + 8 * y) ∧ (∃ w1 : Int32, jfI V a0 0 1 w1 ∧ (w1.toInt = x1.toInt)) ∧ (∃ h1 : Int32, jfI V a0 0 2 h1 ∧ (h1.toInt = x2.toInt))) := by
          intro N
          induction N with
          | zero => intro V i4n28 gs28a0 g3n28 hW he ha0 hOgs28a0 hFgs28a0_3 hFgs28a0_2 hFgs28a0_1 hi4 hb2 hm; exact absurd hm (Nat.not_lt_zero _)
          | succ N ih =>
            intro V i4n28 gs28a0 g3n28 hW he ha0 hOgs28a0 hFgs28a0_3 hFgs28a0_2 hFgs28a0_1 hi4 hb2 hm
            have ih28 := ih
            have hri4 := j_rng i4n28
            have hKgs28a0 : jokO V (jFs 0) gs28a0 := hW _ _ hnp hOgs28a0
            refine J_iload dX2_lay_28 rfl ?_
            refine J_aload_n dX2_lay_30 rfl ?_
            refine J_get jf_X2_15 dX2_lay_31 hOgs28a0 hFgs28a0_1 ?_
            refine Jz_icmp_ge (tgt := 58) jEq.rf jEq.rf dX2_lay_34 (by decide) (fun c34 => ?_) (fun c34 => ?_)
            · refine Jz_iinc 1 dX2_lay_58 rfl rfl (by decide) jEq.rf (by decide) (by omega) (by omega) (fun y58 he58 => ?_)
              refine J_goto (tgt := 17) dX2_lay_61 (by decide) ?_
              refine J.mask [true, true, true, true, false] ?_
              exact ih17 _ y58 gs28a0 g3n28 hW he ha0 hOgs28a0 hFgs28a0_3 hFgs28a0_2 hFgs28a0_1 (by (try simp only [he58.eq, true_and, and_true]) <;> omega) (fun n => (hb2 n).trans ⟨fun ⟨x, y, q, e⟩ => ⟨x, y, by rw [he58.eq]; omega, e⟩, fun ⟨x, y, q, e⟩ => ⟨x, y, by rw [he58.eq] at q; omega, e⟩⟩) (by (try simp only [he58.eq, true_and, and_true]) <;> omega)
            · refine J_aload_n dX2_lay_37 rfl ?_
              refine J_dup dX2_lay_38 rfl ?_
              refine J_get jf_X2_22 dX2_lay_39 hOgs28a0 hFgs28a0_3 ?_
              refine J_iload dX2_lay_42 rfl ?_
              refine J_iload_n dX2_lay_44 rfl ?_
              refine J_callS2 moX2_bitOf jw_ml_X2_46 jw_st_X2_bitOf dX2_lay_45 (w_X2_bitOf_z (d - 1) _ i4n28 i3n17 (by omega)   (by omega) (by omega) (by omega) (by omega)) (by omega) (Nat.zero_le _) (Nat.zero_le _) (Nat.le_of_ble_eq_true rfl) (fun r45 V45 h45 => ?_)
              obtain ⟨⟨y45, rfl, hP45_0⟩, hE45⟩ := h45
              have hE45 := hE45.symm
              subst hE45
              refine J_lor dX2_lay_48 ?_
              refine Jz_putL hOgs28a0 hW hnp rfl jf_X2_22 jt_X2_3 dX2_lay_49 rfl rfl (fun V49 fs49 hW hx49 hO49 hS49 hT49 hB49 => ?_)
              have hK49 : jokO _ (jFs 0) fs49 := hW _ _ hnp hO49
              have hF49_2 := (hT49 2 (by decide)).trans hFgs28a0_2
              have hF49_1 := (hT49 1 (by decide)).trans hFgs28a0_1
              have he := he.trans (hx49.sub (jsub_of rfl))
              have ha0 := ha0.mono hx49.1
              refine Jz_iinc 1 dX2_lay_52 rfl rfl (by decide) jEq.rf (by decide) (by omega) (by omega) (fun y52 he52 => ?_)
              refine J_goto (tgt := 28) dX2_lay_55 (by decide) ?_
              refine J.mask [true, true, true, true, true] ?_
              exact ih28 _ y52 fs49 (g3n28 ||| y45) hW he ha0 hO49 hS49 hF49_2 hF49_1 (by (try simp only [he52.eq, true_and, and_true]) <;> omega) (fun n => by
   rw [jbt_or, hP45_0 n, Bool.or_eq_true, hb2 n, decide_eq_true_iff, he52.eq]
   constructor
   · rintro (⟨x, y, q, e⟩ | q)
     · exact ⟨x, y, by omega, e⟩
     · exact ⟨i4n28.toInt.toNat, i3n17.toInt.toNat, by omega, by omega⟩
   · rintro ⟨x, y, q, e⟩
     by_cases h9 : (n : Int) = 9 + i4n28.toInt + 8 * i3n17.toInt
     · exact Or.inr h9
     · exact Or.inl ⟨x, y, by omega, e⟩) (by (try simp only [he52.eq, true_and, and_true]) <;> omega)
        refine J.mask [true, true, true, true, true] ?_
        exact L28 _ _ y25 gs17a0 g3n17 hW he ha0 hOgs17a0 hFgs17a0_3 hFgs17a0_2 hFgs17a0_1 (by (try simp only [he25.eq, true_and, and_true]) <;> omega) (fun n => (hb n).trans ⟨fun ⟨x, y, q, e⟩ => ⟨x, y, Or.inl q, e⟩, fun ⟨x, y, q, e⟩ => ⟨x, y, by rw [he25.eq] at q; omega, e⟩⟩) (Nat.lt_succ_self _)
  refine J.mask [true, true, true, true, false] ?_
  exact L17 _ _ y15 fs12 (0 : Int64) hW he ha0 hO12 hS12 hF12_2 hF12_1 (by (try simp only [he15.eq, true_and, and_true]) <;> omega) (fun n => ⟨fun q => absurd q (by rw [jbt_zero]; decide), fun ⟨x, y, q, _⟩ => absurd q.2 (by rw [he15.eq]; omega)⟩) (Nat.lt_succ_self _)
set_option maxRecDepth 100000 in
set_option maxHeartbeats 8000000 in
theorem w_X6_hole_out {tS : jTS} (d : Nat) (V0 : jH) (a0 : Nat) (x1 : Int32) (x2 : Int32) (x3 : Int32) (pl : Nat) (pw : Int32) (ph : Int32) (po : Int64) (hd : 3 ≤ d) (hW : WT V0) (ha0 : jis V0 (.inr 4) a0) (hl3 : 0 ≤ x3.toInt) (hh3 : x3.toInt ≤ 1) (hr_pl : jfR V0 a0 4 6 pl) (hpw : jfI V0 pl 0 1 pw) (hph : jfI V0 pl 0 2 ph) (hpo : jfL V0 pl 0 3 po) (hp0 : 2 ≤ pw.toInt) (hp1 : pw.toInt ≤ 6) (hp2 : 2 ≤ ph.toInt) (hp3 : ph.toInt ≤ 6) (hp4 : ¬ (0 ≤ x1.toInt ∧ x1.toInt < pw.toInt ∧ 0 ≤ x2.toInt ∧ x2.toInt < ph.toInt)) : jTot tS mX6_hole d [.ref a0, .int x1, .int x2, .int x3] V0 0 0 (fun r V => (fun r _ => ∃ y : Int32, r = some (.int y) ∧ ((-2147483648) ≤ y.toInt) ∧ (y.toInt ≤ 2147483647) ∧ (y.toInt = -2)) r V ∧ V = V0) := by
  refine jTot.of_J [some (.ref a0), some (.int x1), some (.int x2), some (.int x3)] moX6_hole (Nat.le_of_ble_eq_true rfl) rfl ?_
  have hrx1 := j_rng x1
  have hrx2 := j_rng x2
  have he : jeff [] V0 V0 := jeff.refl _ _
  obtain ⟨fs_a0, hO_a0, hK_a0⟩ := WT_obj hW id ha0
  have hF_pl := hr_pl.get hO_a0
  obtain ⟨w_pl, hFq_pl, b_pl, hbq_pl, hb_pl⟩ := hK_a0.2 6 (.inr (some (.inr 0))) rfl
  cases hF_pl.symm.trans (hFq_pl.trans (congrArg some hbq_pl))
  obtain ⟨fsp, hOp, hKp⟩ := WT_obj hW id hb_pl
  have hFpw := hpw.get hOp
  have hFph := hph.get hOp
  have hFpo := hpo.get hOp
  refine J_iload_n dX6_hole_0 rfl ?_
  refine Jz_if_lt (tgt := 30) jEq.rf dX6_hole_1 (by decide) (fun c1 => ?_) (fun c1 => ?_)
  · refine Jz_bipush (-2) dX6_hole_30 (by decide) (fun y30 he30 => ?_)
    exact J_ret (r := some (.int _)) dX6_hole_32 ⟨rfl, _, rfl, rfl⟩ (⟨⟨_, rfl, (j_rng _).1, (j_rng _).2, (by (try simp only [he30.eq, true_and, and_true]) <;> omega)⟩, rfl⟩)
  · refine J_iload_n dX6_hole_4 rfl ?_
    refine J_aload_n dX6_hole_5 rfl ?_
    refine J_get jf_X6_42 dX6_hole_6 hO_a0 hF_pl ?_
    refine J_get jf_X6_205 dX6_hole_9 hOp hFpw ?_
    refine Jz_icmp_ge (tgt := 30) jEq.rf jEq.rf dX6_hole_12 (by decide) (fun c12 => ?_) (fun c12 => ?_)
    · refine Jz_bipush (-2) dX6_hole_30 (by decide) (fun y30 he30 => ?_)
      exact J_ret (r := some (.int _)) dX6_hole_32 ⟨rfl, _, rfl, rfl⟩ (⟨⟨_, rfl, (j_rng _).1, (j_rng _).2, (by (try simp only [he30.eq, true_and, and_true]) <;> omega)⟩, rfl⟩)
    · refine J_iload_n dX6_hole_15 rfl ?_
      refine Jz_if_lt (tgt := 30) jEq.rf dX6_hole_16 (by decide) (fun c16 => ?_) (fun c16 => ?_)
      · refine Jz_bipush (-2) dX6_hole_30 (by decide) (fun y30 he30 => ?_)
        exact J_ret (r := some (.int _)) dX6_hole_32 ⟨rfl, _, rfl, rfl⟩ (⟨⟨_, rfl, (j_rng _).1, (j_rng _).2, (by (try simp only [he30.eq, true_and, and_true]) <;> omega)⟩, rfl⟩)
      · refine J_iload_n dX6_hole_19 rfl ?_
        refine J_aload_n dX6_hole_20 rfl ?_
        refine J_get jf_X6_42 dX6_hole_21 hO_a0 hF_pl ?_
        refine J_get jf_X6_208 dX6_hole_24 hOp hFph ?_
        refine Jz_icmp_lt (tgt := 33) jEq.rf jEq.rf dX6_hole_27 (by decide) (fun c27 => ?_) (fun c27 => ?_)
        · exact False.elim (by omega)
        · refine Jz_bipush (-2) dX6_hole_30 (by decide) (fun y30 he30 => ?_)
          exact J_ret (r := some (.int _)) dX6_hole_32 ⟨rfl, _, rfl, rfl⟩ (⟨⟨_, rfl, (j_rng _).1, (j_rng _).2, (by (try simp only [he30.eq, true_and, and_true]) <;> omega)⟩, rfl⟩)
set_option maxRecDepth 100000 in
set_option maxHeartbeats 8000000 in
theorem w_X6_hole_same {tS : jTS} (d : Nat) (V0 : jH) (a0 : Nat) (x1 : Int32) (x2 : Int32) (x3 : Int32) (pl : Nat) (pw : Int32) (ph : Int32) (po : Int64) (hd : 3 ≤ d) (hW : WT V0) (ha0 : jis V0 (.inr 4) a0) (hl3 : 0 ≤ x3.toInt) (hh3 : x3.toInt ≤ 1) (hr_pl : jfR V0 a0 4 6 pl) (hpw : jfI V0 pl 0 1 pw) (hph : jfI V0 pl 0 2 ph) (hpo : jfL V0 pl 0 3 po) (hp0 : 2 ≤ pw.toInt) (hp1 : pw.toInt ≤ 6) (hp2 : 2 ≤ ph.toInt) (hp3 : ph.toInt ≤ 6) (hp4 : 0 ≤ x1.toInt ∧ x1.toInt < pw.toInt ∧ 0 ≤ x2.toInt ∧ x2.toInt < ph.toInt) (hp5 : jbt po (9 + x1.toInt + 8 * x2.toInt).toNat = decide (x3.toInt = 0) ∨ (x1.toInt = 0 ∧ x2.toInt = 0 ∨ x1.toInt = pw.toInt - 1 ∧ x2.toInt = ph.toInt - 1)) : jTot tS mX6_hole d [.ref a0, .int x1, .int x2, .int x3] V0 0 0 (fun r V => (fun r _ => ∃ y : Int32, r = some (.int y) ∧ ((-2147483648) ≤ y.toInt) ∧ (y.toInt ≤ 2147483647) ∧ (y.toInt = -3)) r V ∧ V = V0) := by
  refine jTot.of_J [some (.ref a0), some (.int x1), some (.int x2), some (.int x3)] moX6_hole (Nat.le_of_ble_eq_true rfl) rfl ?_
  have hrx1 := j_rng x1
  have hrx2 := j_rng x2
  have he : jeff [] V0 V0 := jeff.refl _ _
  obtain ⟨fs_a0, hO_a0, hK_a0⟩ := WT_obj hW id ha0
  have hF_pl := hr_pl.get hO_a0
  obtain ⟨w_pl, hFq_pl, b_pl, hbq_pl, hb_pl⟩ := hK_a0.2 6 (.inr (some (.inr 0))) rfl
  cases hF_pl.symm.trans (hFq_pl.trans (congrArg some hbq_pl))
  obtain ⟨fsp, hOp, hKp⟩ := WT_obj hW id hb_pl
  have hFpw := hpw.get hOp
  have hFph := hph.get hOp
  have hFpo := hpo.get hOp
  refine J_iload_n dX6_hole_0 rfl ?_
  refine Jz_if_lt (tgt := 30) jEq.rf dX6_hole_1 (by decide) (fun c1 => ?_) (fun c1 => ?_)
  · exact False.elim (by omega)
  · refine J_iload_n dX6_hole_4 rfl ?_
    refine J_aload_n dX6_hole_5 rfl ?_
    refine J_get jf_X6_42 dX6_hole_6 hO_a0 hF_pl ?_
    refine J_get jf_X6_205 dX6_hole_9 hOp hFpw ?_
    refine Jz_icmp_ge (tgt := 30) jEq.rf jEq.rf dX6_hole_12 (by decide) (fun c12 => ?_) (fun c12 => ?_)
    · exact False.elim (by omega)
    · refine J_iload_n dX6_hole_15 rfl ?_
      refine Jz_if_lt (tgt := 30) jEq.rf dX6_hole_16 (by decide) (fun c16 => ?_) (fun c16 => ?_)
      · exact False.elim (by omega)
      · refine J_iload_n dX6_hole_19 rfl ?_
        refine J_aload_n dX6_hole_20 rfl ?_
        refine J_get jf_X6_42 dX6_hole_21 hO_a0 hF_pl ?_
        refine J_get jf_X6_208 dX6_hole_24 hOp hFph ?_
        refine Jz_icmp_lt (tgt := 33) jEq.rf jEq.rf dX6_hole_27 (by decide) (fun c27 => ?_) (fun c27 => ?_)
        · refine J_aload_n dX6_hole_33 rfl ?_
          refine J_get jf_X6_42 dX6_hole_34 hO_a0 hF_pl ?_
          refine J_iload_n dX6_hole_37 rfl ?_
          refine J_iload_n dX6_hole_38 rfl ?_
          refine Jw_callV2 (q9 := (RX2, TX2, 9)) moX2_isHole jw_ml_X6_211 jw_im_X2_isHole jw_se_X2_isHole hb_pl rfl rfl dX6_hole_39 (w_X2_isHole_z (d - 1) _ pl x1 x2 po (by omega) hW  hb_pl ⟨_, hOp, hFpo⟩ (by omega) (by omega) (by omega) (by omega)) (by omega) (Nat.zero_le _) (Nat.zero_le _) (Nat.le_of_ble_eq_true rfl) (fun r39 V39 h39 => ?_)
          obtain ⟨⟨y39, rfl, hl39, hh39, hI39_0, hI39_1⟩, hE39⟩ := h39
          have hE39 := hE39.symm
          subst hE39
          refine J_iload_n dX6_hole_42 rfl ?_
          refine Jz_icmp_eq (tgt := 58) jEq.rf jEq.rf dX6_hole_43 (by decide) (fun c43 => ?_) (fun c43 => ?_)
          · refine Jz_bipush (-3) dX6_hole_58 (by decide) (fun y58 he58 => ?_)
            exact J_ret (r := some (.int _)) dX6_hole_60 ⟨rfl, _, rfl, rfl⟩ (⟨⟨_, rfl, (j_rng _).1, (j_rng _).2, (by (try simp only [he58.eq, true_and, and_true]) <;> omega)⟩, rfl⟩)
          · refine J_aload_n dX6_hole_46 rfl ?_
            refine J_get jf_X6_42 dX6_hole_47 hO_a0 hF_pl ?_
            refine J_iload_n dX6_hole_50 rfl ?_
            refine J_iload_n dX6_hole_51 rfl ?_
            refine Jw_callV2 (q9 := (RX2, TX2, 9)) moX2_isCorner jw_ml_X6_214 jw_im_X2_isCorner jw_se_X2_isCorner hb_pl rfl rfl dX6_hole_52 (w_X2_isCorner_z (d - 1) _ pl x1 x2 pw ph (by omega) hW  hb_pl ⟨_, hOp, hFpw⟩ ⟨_, hOp, hFph⟩ (by omega) (by omega)) (by omega) (Nat.zero_le _) (Nat.zero_le _) (Nat.le_of_ble_eq_true rfl) (fun r52 V52 h52 => ?_)
            obtain ⟨⟨y52, rfl, hl52, hh52, hP52_0⟩, hE52⟩ := h52
            have hE52 := hE52.symm
            subst hE52
            refine Jz_if_eq (tgt := 61) jEq.rf dX6_hole_55 (by decide) (fun c55 => ?_) (fun c55 => ?_)
            · exact False.elim (by
    rcases hp5 with h9 | h9
    · rcases (show y39.toInt = 1 ∨ y39.toInt = 0 by omega) with h8 | h8
      · have q := hI39_0.of h8
        rw [h9] at q
        have q2 := of_decide_eq_false q
        omega
      · have q := hI39_1.of h8
        rw [h9] at q
        have q2 := of_decide_eq_true q
        omega
    · omega)
            · refine Jz_bipush (-3) dX6_hole_58 (by decide) (fun y58 he58 => ?_)
              exact J_ret (r := some (.int _)) dX6_hole_60 ⟨rfl, _, rfl, rfl⟩ (⟨⟨_, rfl, (j_rng _).1, (j_rng _).2, (by (try simp only [he58.eq, true_and, and_true]) <;> omega)⟩, rfl⟩)
        · exact False.elim (by omega)
set_option maxRecDepth 100000 in
set_option maxHeartbeats 8000000 in
theorem w_X6_hole_turn {tS : jTS} (d : Nat) (V0 : jH) (a0 : Nat) (x1 : Int32) (x2 : Int32) (x3 : Int32) (pl : Nat) (pw : Int32) (ph : Int32) (po : Int64) (hd : 3 ≤ d) (hW : WT V0) (ha0 : jis V0 (.inr 4) a0) (hl3 : 0 ≤ x3.toInt) (hh3 : x3.toInt ≤ 1) (hr_pl : jfR V0 a0 4 6 pl) (hpw : jfI V0 pl 0 1 pw) (hph : jfI V0 pl 0 2 ph) (hpo : jfL V0 pl 0 3 po) (hp0 : 2 ≤ pw.toInt) (hp1 : pw.toInt ≤ 6) (hp2 : 2 ≤ ph.toInt) (hp3 : ph.toInt ≤ 6) (hp4 : 0 ≤ x1.toInt ∧ x1.toInt < pw.toInt ∧ 0 ≤ x2.toInt ∧ x2.toInt < ph.toInt) (hp5 : jbt po (9 + x1.toInt + 8 * x2.toInt).toNat = decide (x3.toInt = 1)) (hp6 : ¬ (x1.toInt = 0 ∧ x2.toInt = 0 ∨ x1.toInt = pw.toInt - 1 ∧ x2.toInt = ph.toInt - 1)) : jTot tS mX6_hole d [.ref a0, .int x1, .int x2, .int x3] V0 0 0 (fun r V => (jPost [.inr 0] V0 (fun r _ => ∃ y : Int32, r = some (.int y) ∧ ((-2147483648) ≤ y.toInt) ∧ (y.toInt ≤ 2147483647) ∧ (y.toInt = 1))) r V ∧ jkc 0 [1, 2] V0 V ∧ (∃ op2 : Int64, jfL V pl 0 3 op2 ∧ ∀ n : Nat, jbt op2 n = (jbt po n ^^ decide (n = (9 + x1.toInt + 8 * x2.toInt).toNat)))) := by
  refine jTot.of_J [some (.ref a0), some (.int x1), some (.int x2), some (.int x3)] moX6_hole (Nat.le_of_ble_eq_true rfl) rfl ?_
  have hrx1 := j_rng x1
  have hrx2 := j_rng x2
  have he : jeff [.inr 0] V0 V0 := jeff.refl _ _
  obtain ⟨fs_a0, hO_a0, hK_a0⟩ := WT_obj hW id ha0
  have hF_pl := hr_pl.get hO_a0
  obtain ⟨w_pl, hFq_pl, b_pl, hbq_pl, hb_pl⟩ := hK_a0.2 6 (.inr (some (.inr 0))) rfl
  cases hF_pl.symm.trans (hFq_pl.trans (congrArg some hbq_pl))
  obtain ⟨fsp, hOp, hKp⟩ := WT_obj hW id hb_pl
  have hFpw := hpw.get hOp
  have hFph := hph.get hOp
  have hFpo := hpo.get hOp
  refine J_iload_n dX6_hole_0 rfl ?_
  refine Jz_if_lt (tgt := 30) jEq.rf dX6_hole_1 (by decide) (fun c1 => ?_) (fun c1 => ?_)
  · exact False.elim (by omega)
  · refine J_iload_n dX6_hole_4 rfl ?_
    refine J_aload_n dX6_hole_5 rfl ?_
    refine J_get jf_X6_42 dX6_hole_6 hO_a0 hF_pl ?_
    refine J_get jf_X6_205 dX6_hole_9 hOp hFpw ?_
    refine Jz_icmp_ge (tgt := 30) jEq.rf jEq.rf dX6_hole_12 (by decide) (fun c12 => ?_) (fun c12 => ?_)
    · exact False.elim (by omega)
    · refine J_iload_n dX6_hole_15 rfl ?_
      refine Jz_if_lt (tgt := 30) jEq.rf dX6_hole_16 (by decide) (fun c16 => ?_) (fun c16 => ?_)
      · exact False.elim (by omega)
      · refine J_iload_n dX6_hole_19 rfl ?_
        refine J_aload_n dX6_hole_20 rfl ?_
        refine J_get jf_X6_42 dX6_hole_21 hO_a0 hF_pl ?_
        refine J_get jf_X6_208 dX6_hole_24 hOp hFph ?_
        refine Jz_icmp_lt (tgt := 33) jEq.rf jEq.rf dX6_hole_27 (by decide) (fun c27 => ?_) (fun c27 => ?_)
        · refine J_aload_n dX6_hole_33 rfl ?_
          refine J_get jf_X6_42 dX6_hole_34 hO_a0 hF_pl ?_
          refine J_iload_n dX6_hole_37 rfl ?_
          refine J_iload_n dX6_hole_38 rfl ?_
          refine Jw_callV2 (q9 := (RX2, TX2, 9)) moX2_isHole jw_ml_X6_211 jw_im_X2_isHole jw_se_X2_isHole hb_pl rfl rfl dX6_hole_39 (w_X2_isHole_z (d - 1) _ pl x1 x2 po (by omega) hW  hb_pl ⟨_, hOp, hFpo⟩ (by omega) (by omega) (by omega) (by omega)) (by omega) (Nat.zero_le _) (Nat.zero_le _) (Nat.le_of_ble_eq_true rfl) (fun r39 V39 h39 => ?_)
          obtain ⟨⟨y39, rfl, hl39, hh39, hI39_0, hI39_1⟩, hE39⟩ := h39
          have hE39 := hE39.symm
          subst hE39
          refine J_iload_n dX6_hole_42 rfl ?_
          refine Jz_icmp_eq (tgt := 58) jEq.rf jEq.rf dX6_hole_43 (by decide) (fun c43 => ?_) (fun c43 => ?_)
          · exact False.elim (by
    rcases (show y39.toInt = 1 ∨ y39.toInt = 0 by omega) with h8 | h8
    · have q := hI39_0.of h8
      rw [hp5] at q
      have q2 := of_decide_eq_false q
      omega
    · have q := hI39_1.of h8
      rw [hp5] at q
      have q2 := of_decide_eq_true q
      omega)
          · refine J_aload_n dX6_hole_46 rfl ?_
            refine J_get jf_X6_42 dX6_hole_47 hO_a0 hF_pl ?_
            refine J_iload_n dX6_hole_50 rfl ?_
            refine J_iload_n dX6_hole_51 rfl ?_
            refine Jw_callV2 (q9 := (RX2, TX2, 9)) moX2_isCorner jw_ml_X6_214 jw_im_X2_isCorner jw_se_X2_isCorner hb_pl rfl rfl dX6_hole_52 (w_X2_isCorner_z (d - 1) _ pl x1 x2 pw ph (by omega) hW  hb_pl ⟨_, hOp, hFpw⟩ ⟨_, hOp, hFph⟩ (by omega) (by omega)) (by omega) (Nat.zero_le _) (Nat.zero_le _) (Nat.le_of_ble_eq_true rfl) (fun r52 V52 h52 => ?_)
            obtain ⟨⟨y52, rfl, hl52, hh52, hP52_0⟩, hE52⟩ := h52
            have hE52 := hE52.symm
            subst hE52
            refine Jz_if_eq (tgt := 61) jEq.rf dX6_hole_55 (by decide) (fun c55 => ?_) (fun c55 => ?_)
            · refine J_aload_n dX6_hole_61 rfl ?_
              refine J_get jf_X6_42 dX6_hole_62 hO_a0 hF_pl ?_
              refine J_iload_n dX6_hole_65 rfl ?_
              refine J_iload_n dX6_hole_66 rfl ?_
              refine Jw_callV2 (q9 := (RX2, TX2, 9)) moX2_turnOver jw_ml_X6_217 jw_im_X2_turnOver jw_se_X2_turnOver hb_pl rfl rfl dX6_hole_67 (w_X2_turnOver_z (d - 1) _ pl x1 x2 po (by omega) hW  hb_pl ⟨_, hOp, hFpo⟩ (by omega) (by omega) (by omega) (by omega)) (by omega) (Nat.zero_le _) (Nat.zero_le _) (Nat.le_of_ble_eq_true rfl) (fun r67 V67 h67 => ?_)
              obtain ⟨h67, hX67_0, hX67_1⟩ := h67
              obtain ⟨hW, hx67, hr67⟩ := h67
              have he := he.trans (hx67.sub (jsub_of rfl))
              have ha0 := ha0.mono hx67.1
              have hb_pl := hb_pl.mono hx67.1
              have hO_a0 := hx67.2 _ _ hO_a0 (jnot_of rfl)
              have hK_a0 := hK_a0.mono hx67.1
              obtain ⟨fs67pl, hOfs67pl, hRfs67pl⟩ := hx67.1.keep hOp
              have hKfs67pl : jokO _ (jFs 0) fs67pl := hW _ _ id hOfs67pl
              cases hr67
              refine Jz_iconst 1 dX6_hole_70 (by decide) (fun y70 he70 => ?_)
              exact J_ret (r := some (.int _)) dX6_hole_71 ⟨rfl, _, rfl, rfl⟩ (⟨⟨hW, he, ⟨_, rfl, (j_rng _).1, (j_rng _).2, (by (try simp only [he70.eq, true_and, and_true]) <;> omega)⟩⟩, hX67_1, hX67_0⟩)
            · exact False.elim (by
    rcases (show y39.toInt = 1 ∨ y39.toInt = 0 by omega) with h8 | h8
    · have q := hI39_0.of h8
      rw [hp5] at q
      have q2 := of_decide_eq_false q
      omega
    · have q := hI39_1.of h8
      rw [hp5] at q
      have q2 := of_decide_eq_true q
      omega)
        · exact False.elim (by omega)
set_option maxRecDepth 100000 in
set_option maxHeartbeats 8000000 in
theorem w_X6_board_no {tS : jTS} (d : Nat) (V0 : jH) (a0 : Nat) (x1 : Int32) (x2 : Int32) (hd : 3 ≤ d) (hW : WT V0) (ha0 : jis V0 (.inr 4) a0) (hp0 : ¬ (2 ≤ x1.toInt ∧ x1.toInt ≤ 6 ∧ 2 ≤ x2.toInt ∧ x2.toInt ≤ 6)) : jTot tS mX6_board d [.ref a0, .int x1, .int x2] V0 0 0 (fun r V => (fun r _ => ∃ y : Int32, r = some (.int y) ∧ ((-2147483648) ≤ y.toInt) ∧ (y.toInt ≤ 2147483647) ∧ (y.toInt = -2)) r V ∧ V = V0) := by
  refine jTot.of_J [some (.ref a0), some (.int x1), some (.int x2)] moX6_board (Nat.le_of_ble_eq_true rfl) rfl ?_
  have hrx1 := j_rng x1
  have hrx2 := j_rng x2
  have he : jeff [] V0 V0 := jeff.refl _ _
  refine J_iload_n dX6_board_0 rfl ?_
  refine Jz_iconst 2 dX6_board_1 (by decide) (fun y1 he1 => ?_)
  refine Jz_icmp_lt (tgt := 22) jEq.rf he1 dX6_board_2 (by decide) (fun c2 => ?_) (fun c2 => ?_)
  · refine Jz_bipush (-2) dX6_board_22 (by decide) (fun y22 he22 => ?_)
    exact J_ret (r := some (.int _)) dX6_board_24 ⟨rfl, _, rfl, rfl⟩ (⟨⟨_, rfl, (j_rng _).1, (j_rng _).2, (by (try simp only [he22.eq, true_and, and_true]) <;> omega)⟩, rfl⟩)
  · refine J_iload_n dX6_board_5 rfl ?_
    refine Jz_bipush 6 dX6_board_6 (by decide) (fun y6 he6 => ?_)
    refine Jz_icmp_gt (tgt := 22) jEq.rf he6 dX6_board_8 (by decide) (fun c8 => ?_) (fun c8 => ?_)
    · refine Jz_bipush (-2) dX6_board_22 (by decide) (fun y22 he22 => ?_)
      exact J_ret (r := some (.int _)) dX6_board_24 ⟨rfl, _, rfl, rfl⟩ (⟨⟨_, rfl, (j_rng _).1, (j_rng _).2, (by (try simp only [he22.eq, true_and, and_true]) <;> omega)⟩, rfl⟩)
    · refine J_iload_n dX6_board_11 rfl ?_
      refine Jz_iconst 2 dX6_board_12 (by decide) (fun y12 he12 => ?_)
      refine Jz_icmp_lt (tgt := 22) jEq.rf he12 dX6_board_13 (by decide) (fun c13 => ?_) (fun c13 => ?_)
      · refine Jz_bipush (-2) dX6_board_22 (by decide) (fun y22 he22 => ?_)
        exact J_ret (r := some (.int _)) dX6_board_24 ⟨rfl, _, rfl, rfl⟩ (⟨⟨_, rfl, (j_rng _).1, (j_rng _).2, (by (try simp only [he22.eq, true_and, and_true]) <;> omega)⟩, rfl⟩)
      · refine J_iload_n dX6_board_16 rfl ?_
        refine Jz_bipush 6 dX6_board_17 (by decide) (fun y17 he17 => ?_)
        refine Jz_icmp_le (tgt := 25) jEq.rf he17 dX6_board_19 (by decide) (fun c19 => ?_) (fun c19 => ?_)
        · exact False.elim (by omega)
        · refine Jz_bipush (-2) dX6_board_22 (by decide) (fun y22 he22 => ?_)
          exact J_ret (r := some (.int _)) dX6_board_24 ⟨rfl, _, rfl, rfl⟩ (⟨⟨_, rfl, (j_rng _).1, (j_rng _).2, (by (try simp only [he22.eq, true_and, and_true]) <;> omega)⟩, rfl⟩)
set_option maxRecDepth 100000 in
set_option maxHeartbeats 8000000 in
theorem w_X6_board_yes {tS : jTS} (d : Nat) (V0 : jH) (a0 : Nat) (x1 : Int32) (x2 : Int32) (pl : Nat) (hd : 3 ≤ d) (hW : WT V0) (ha0 : jis V0 (.inr 4) a0) (hr_pl : jfR V0 a0 4 6 pl) (hp0 : 2 ≤ x1.toInt ∧ x1.toInt ≤ 6 ∧ 2 ≤ x2.toInt ∧ x2.toInt ≤ 6) : jTot tS mX6_board d [.ref a0, .int x1, .int x2] V0 0 0 (fun r V => (jPost [.inr 0] V0 (fun r _ => ∃ y : Int32, r = some (.int y) ∧ ((-2147483648) ≤ y.toInt) ∧ (y.toInt ≤ 2147483647) ∧ (y.toInt = 1))) r V ∧ (∃ (w2 h2 : Int32) (op2 : Int64), jfI V pl 0 1 w2 ∧ jfI V pl 0 2 h2 ∧ jfL V pl 0 3 op2 ∧ w2.toInt = x1.toInt ∧ h2.toInt = x2.toInt ∧ ∀ n : Nat, jbt op2 n = true ↔ ∃ x y : Nat, ((x : Int) < x1.toInt ∧ (y : Int) < x2.toInt) ∧ n = 9 + x + 8 * y)) := by
  refine jTot.of_J [some (.ref a0), some (.int x1), some (.int x2)] moX6_board (Nat.le_of_ble_eq_true rfl) rfl ?_
  have hrx1 := j_rng x1
  have hrx2 := j_rng x2
  have he : jeff [.inr 0] V0 V0 := jeff.refl _ _
  obtain ⟨fs_a0, hO_a0, hK_a0⟩ := WT_obj hW id ha0
  have hF_pl := hr_pl.get hO_a0
  obtain ⟨w_pl, hFq_pl, b_pl, hbq_pl, hb_pl⟩ := hK_a0.2 6 (.inr (some (.inr 0))) rfl
  cases hF_pl.symm.trans (hFq_pl.trans (congrArg some hbq_pl))
  refine J_iload_n dX6_board_0 rfl ?_
  refine Jz_iconst 2 dX6_board_1 (by decide) (fun y1 he1 => ?_)
  refine Jz_icmp_lt (tgt := 22) jEq.rf he1 dX6_board_2 (by decide) (fun c2 => ?_) (fun c2 => ?_)
  · exact False.elim (by omega)
  · refine J_iload_n dX6_board_5 rfl ?_
    refine Jz_bipush 6 dX6_board_6 (by decide) (fun y6 he6 => ?_)
    refine Jz_icmp_gt (tgt := 22) jEq.rf he6 dX6_board_8 (by decide) (fun c8 => ?_) (fun c8 => ?_)
    · exact False.elim (by omega)
    · refine J_iload_n dX6_board_11 rfl ?_
      refine Jz_iconst 2 dX6_board_12 (by decide) (fun y12 he12 => ?_)
      refine Jz_icmp_lt (tgt := 22) jEq.rf he12 dX6_board_13 (by decide) (fun c13 => ?_) (fun c13 => ?_)
      · exact False.elim (by omega)
      · refine J_iload_n dX6_board_16 rfl ?_
        refine Jz_bipush 6 dX6_board_17 (by decide) (fun y17 he17 => ?_)
        refine Jz_icmp_le (tgt := 25) jEq.rf he17 dX6_board_19 (by decide) (fun c19 => ?_) (fun c19 => ?_)
        · refine J_aload_n dX6_board_25 rfl ?_
          refine J_get jf_X6_42 dX6_board_26 hO_a0 hF_pl ?_
          refine J_iload_n dX6_board_29 rfl ?_
          refine J_iload_n dX6_board_30 rfl ?_
          refine Jw_callV2 (q9 := (RX2, TX2, 9)) moX2_lay jw_ml_X6_202 jw_im_X2_lay jw_se_X2_lay hb_pl rfl rfl dX6_board_31 (w_X2_lay_z (d - 1) _ pl x1 x2 (by omega) hW id hb_pl (by omega) (by omega) (by omega) (by omega)) (by omega) (Nat.zero_le _) (Nat.zero_le _) (Nat.le_of_ble_eq_true rfl) (fun r31 V31 h31 => ?_)
          obtain ⟨h31, hX31_0, ⟨fv31_0, hfv31_0, hfp31_0⟩, ⟨fv31_1, hfv31_1, hfp31_1⟩⟩ := h31
          obtain ⟨hW, hx31, hr31⟩ := h31
          have he := he.trans (hx31.sub (jsub_of rfl))
          have ha0 := ha0.mono hx31.1
          have hb_pl := hb_pl.mono hx31.1
          have hO_a0 := hx31.2 _ _ hO_a0 (jnot_of rfl)
          have hK_a0 := hK_a0.mono hx31.1
          cases hr31
          obtain ⟨fs31o, hO31o, hK31o⟩ := WT_obj hW id hb_pl
          have hFv31_0 := hfv31_0.get hO31o
          have hzf31_0 : jEq fv31_0.toInt ((x1.toInt)) := hfp31_0
          clear hfp31_0
          have hFv31_1 := hfv31_1.get hO31o
          have hzf31_1 : jEq fv31_1.toInt ((x2.toInt)) := hfp31_1
          clear hfp31_1
          obtain ⟨op2, hop2, hbits⟩ := hX31_0
          refine Jz_iconst 1 dX6_board_34 (by decide) (fun y34 he34 => ?_)
          exact J_ret (r := some (.int _)) dX6_board_35 ⟨rfl, _, rfl, rfl⟩ (⟨⟨hW, he, ⟨_, rfl, (j_rng _).1, (j_rng _).2, (by (try simp only [he34.eq, true_and, and_true]) <;> omega)⟩⟩, ⟨_, _, op2, hfv31_0, hfv31_1, hop2, hzf31_0.eq, hzf31_1.eq, hbits⟩⟩)
        · exact False.elim (by omega)
set_option maxRecDepth 100000 in
set_option maxHeartbeats 8000000 in
theorem w_X6_count_z {tS : jTS} (d : Nat) (V0 : jH) (a0 : Nat) (x1 : Int32) (v1 : Int32) (pl : Nat) (pw : Int32) (ph : Int32) (po : Int64) (hd : 1 ≤ d) (hW : WT V0) (ha0 : jis V0 (.inr 4) a0) (hf_v1 : jfI V0 a0 4 1 v1) (hr_pl : jfR V0 a0 4 6 pl) (hpw : jfI V0 pl 0 1 pw) (hph : jfI V0 pl 0 2 ph) (hpo : jfL V0 pl 0 3 po) : jTot tS mX6_count d [.ref a0, .int x1] V0 0 0 (fun r V => (fun r _ => ∃ y : Int32, r = some (.int y) ∧ ((-2147483648) ≤ y.toInt) ∧ (y.toInt ≤ 2147483647) ∧ ((x1.toInt = 0 ∧ y.toInt = v1.toInt) ∨ (x1.toInt = 1 ∧ y.toInt = ((jsum (fun n => (jbt po n).toNat) 64 : Nat) : Int)) ∨ (x1.toInt = 2 ∧ y.toInt = pw.toInt) ∨ (x1.toInt = 3 ∧ y.toInt = ph.toInt) ∨ (¬ (0 ≤ x1.toInt ∧ x1.toInt ≤ 3) ∧ y.toInt = -2))) r V ∧ V = V0) := by
  refine jTot.of_J [some (.ref a0), some (.int x1)] moX6_count (Nat.le_of_ble_eq_true rfl) rfl ?_
  have hrx1 := j_rng x1
  have he : jeff [] V0 V0 := jeff.refl _ _
  obtain ⟨fs_a0, hO_a0, hK_a0⟩ := WT_obj hW id ha0
  have hF_v1 := hf_v1.get hO_a0
  have hrv1 : 0 ≤ v1.toInt ∧ v1.toInt ≤ 16 := jok_rngI hK_a0 rfl hF_v1
  have hF_pl := hr_pl.get hO_a0
  obtain ⟨w_pl, hFq_pl, b_pl, hbq_pl, hb_pl⟩ := hK_a0.2 6 (.inr (some (.inr 0))) rfl
  cases hF_pl.symm.trans (hFq_pl.trans (congrArg some hbq_pl))
  obtain ⟨fsp, hOp, hKp⟩ := WT_obj hW id hb_pl
  have hFpw := hpw.get hOp
  have hFph := hph.get hOp
  have hFpo := hpo.get hOp
  refine J_iload_n dX6_count_0 rfl ?_
  rcases jsw3 x1 with hx1 | hx1 | hx1 | hx1 | hx1 | hx1
  · have hx1t : x1.toInt = 0 := by rw [hx1]; rfl
    clear hx1
    refine J_tableIn (tgt := 32) dX6_count_1 (by omega) (by omega) (by rw [hx1t]; rfl) (by decide) ?_
    refine J_aload_n dX6_count_32 rfl ?_
    refine J_get jf_X6_15 dX6_count_33 hO_a0 hF_v1 ?_
    exact J_ret (r := some (.int _)) dX6_count_36 ⟨rfl, _, rfl, rfl⟩ (⟨⟨_, rfl, (j_rng _).1, (j_rng _).2, (by omega)⟩, rfl⟩)
  · have hx1t : x1.toInt = 1 := by rw [hx1]; rfl
    clear hx1
    refine J_tableIn (tgt := 37) dX6_count_1 (by omega) (by omega) (by rw [hx1t]; rfl) (by decide) ?_
    refine J_aload_n dX6_count_37 rfl ?_
    refine J_get jf_X6_42 dX6_count_38 hO_a0 hF_pl ?_
    refine J_get jf_X6_234 dX6_count_41 hOp hFpo ?_
    refine J_callS1 moJ13_bitCount_95d88 jw_ml_X6_238 jw_st_J13_bitCount_95d88 dX6_count_44 (w_J13_bitCount_95d88_z (d - 1) _ po (by omega)   ) (by omega) (Nat.zero_le _) (Nat.zero_le _) (Nat.le_of_ble_eq_true rfl) (fun r44 V44 h44 => ?_)
    obtain ⟨⟨y44, rfl, hl44, hh44, hP44_0⟩, hE44⟩ := h44
    have hE44 := hE44.symm
    subst hE44
    clear hl44 hh44
    exact J_ret (r := some (.int _)) dX6_count_47 ⟨rfl, _, rfl, rfl⟩ (⟨⟨_, rfl, (j_rng _).1, (j_rng _).2, (by omega)⟩, rfl⟩)
  · have hx1t : x1.toInt = 2 := by rw [hx1]; rfl
    clear hx1
    refine J_tableIn (tgt := 48) dX6_count_1 (by omega) (by omega) (by rw [hx1t]; rfl) (by decide) ?_
    refine J_aload_n dX6_count_48 rfl ?_
    refine J_get jf_X6_42 dX6_count_49 hO_a0 hF_pl ?_
    refine J_get jf_X6_205 dX6_count_52 hOp hFpw ?_
    exact J_ret (r := some (.int _)) dX6_count_55 ⟨rfl, _, rfl, rfl⟩ (⟨⟨_, rfl, (j_rng _).1, (j_rng _).2, (by omega)⟩, rfl⟩)
  · have hx1t : x1.toInt = 3 := by rw [hx1]; rfl
    clear hx1
    refine J_tableIn (tgt := 56) dX6_count_1 (by omega) (by omega) (by rw [hx1t]; rfl) (by decide) ?_
    refine J_aload_n dX6_count_56 rfl ?_
    refine J_get jf_X6_42 dX6_count_57 hO_a0 hF_pl ?_
    refine J_get jf_X6_208 dX6_count_60 hOp hFph ?_
    exact J_ret (r := some (.int _)) dX6_count_63 ⟨rfl, _, rfl, rfl⟩ (⟨⟨_, rfl, (j_rng _).1, (j_rng _).2, (by omega)⟩, rfl⟩)
  · refine J_tableOut (tgt := 64) dX6_count_1 (Or.inl hx1) (by decide) ?_
    refine Jz_bipush (-2) dX6_count_64 (by decide) (fun y64 he64 => ?_)
    exact J_ret (r := some (.int _)) dX6_count_66 ⟨rfl, _, rfl, rfl⟩ (⟨⟨_, rfl, (j_rng _).1, (j_rng _).2, (by (try simp only [he64.eq, true_and, and_true]) <;> omega)⟩, rfl⟩)
  · refine J_tableOut (tgt := 64) dX6_count_1 (Or.inr hx1) (by decide) ?_
    refine Jz_bipush (-2) dX6_count_64 (by decide) (fun y64 he64 => ?_)
    exact J_ret (r := some (.int _)) dX6_count_66 ⟨rfl, _, rfl, rfl⟩ (⟨⟨_, rfl, (j_rng _).1, (j_rng _).2, (by (try simp only [he64.eq, true_and, and_true]) <;> omega)⟩, rfl⟩)
set_option maxRecDepth 100000 in
set_option maxHeartbeats 8000000 in
theorem w_X0_shiftX_z {tS : jTS} (d : Nat) (V0 : jH) (x0 : Int32) (x1 : Int32) (hd : 0 ≤ d)  (hp0 : 0 ≤ x0.toInt) (hp1 : x0.toInt ≤ 3) (hp2 : 0 ≤ x1.toInt) (hp3 : x1.toInt < jdir x0.toInt) : jTot tS mX0_shiftX d [.int x0, .int x1] V0 0 0 (fun r V => (fun r _ => ∃ y : Int32, r = some (.int y) ∧ ((-2147483648) ≤ y.toInt) ∧ (y.toInt ≤ 2147483647) ∧ (y.toInt = jsx x0.toInt x1.toInt)) r V ∧ V = V0) := by
  refine jTot.of_J [some (.int x0), some (.int x1), none] moX0_shiftX (Nat.le_of_ble_eq_true rfl) rfl ?_
  have hrx0 := j_rng x0
  have hrx1 := j_rng x1
  have hjd := jdir_cases x0.toInt
  refine Jz_bipush 6 dX0_shiftX_0 (by decide) (fun y0 he0 => ?_)
  refine J_iload_n dX0_shiftX_2 rfl ?_
  refine Jz_imul he0 jEq.rf dX0_shiftX_3 (by omega) (by omega) (fun y3 he3 => ?_)
  refine J_iload_n dX0_shiftX_4 rfl ?_
  refine Jz_iadd he3 jEq.rf dX0_shiftX_5 (by omega) (by omega) (fun y5 he5 => ?_)
  refine J_istore_n dX0_shiftX_6 rfl (by decide) ?_
  refine J_iload_n dX0_shiftX_7 rfl ?_
  refine Jz_if_lt (tgt := 27) he5 dX0_shiftX_8 (by decide) (fun c8 => ?_) (fun c8 => ?_)
  · exact False.elim (by omega)
  · refine J_iload_n dX0_shiftX_11 rfl ?_
    refine J_gets (k := 0) rfl jw_fl_X0_18 dX0_shiftX_12 ?_
    refine J_tlen (k := 0) (v := Int32.ofNat 24) rfl dX0_shiftX_15 rfl ?_
    have he15 : jEq (Int32.ofNat 24).toInt 24 := nI_toInt (by decide)
    generalize Int32.ofNat 24 = y15 at he15 ⊢
    refine Jz_icmp_ge (tgt := 27) he5 he15 dX0_shiftX_16 (by decide) (fun c16 => ?_) (fun c16 => ?_)
    · exact False.elim (by omega)
    · refine J_gets (k := 0) rfl jw_fl_X0_18 dX0_shiftX_19 ?_
      refine J_iload_n dX0_shiftX_22 rfl ?_
      refine J_ti (k := 0) (v := .int (jSv0.getD y5.toNatClampNeg 0)) rfl rfl dX0_shiftX_23 (vp_in_n (by (try simp only [he5.eq, true_and, and_true]) <;> omega) (by (try simp only [he5.eq, true_and, and_true]) <;> omega)) rfl ?_
      have hz23 : jEq (jSv0.getD y5.toNatClampNeg 0).toInt (jsx x0.toInt x1.toInt) := (jtabx (by omega) (by omega) (by omega) (by omega) he5.eq)
      generalize jSv0.getD y5.toNatClampNeg 0 = y23 at hz23 ⊢
      refine J_goto (tgt := 28) dX0_shiftX_24 (by decide) ?_
      exact J_ret (r := some (.int _)) dX0_shiftX_28 ⟨rfl, _, rfl, rfl⟩ (⟨⟨_, rfl, (j_rng _).1, (j_rng _).2, (by first | ((try simp only [hz23.eq, true_and, and_true]) <;> omega) | ((try simp only [hz23.eq]); unfold jsx; (repeat' split) <;> omega))⟩, rfl⟩)
set_option maxRecDepth 100000 in
set_option maxHeartbeats 8000000 in
theorem w_X0_isEven_z {tS : jTS} (d : Nat) (V0 : jH) (x0 : Int32) (x1 : Int32) (hd : 0 ≤ d)  (hp0 : -1000 ≤ x0.toInt) (hp1 : x0.toInt ≤ 1000) (hp2 : -1000 ≤ x1.toInt) (hp3 : x1.toInt ≤ 1000) : jTot tS mX0_isEven d [.int x0, .int x1] V0 0 0 (fun r V => (fun r _ => ∃ y : Int32, r = some (.int y) ∧ (0 ≤ y.toInt) ∧ (y.toInt ≤ 1) ∧ ((y.toInt = 1 ∧ (x0.toInt + x1.toInt) % 2 = 0) ∨ (y.toInt = 0 ∧ ¬ (x0.toInt + x1.toInt) % 2 = 0))) r V ∧ V = V0) := by
  refine jTot.of_J [some (.int x0), some (.int x1)] moX0_isEven (Nat.le_of_ble_eq_true rfl) rfl ?_
  have hrx0 := j_rng x0
  have hrx1 := j_rng x1
  refine J_iload_n dX0_isEven_0 rfl ?_
  refine J_iload_n dX0_isEven_1 rfl ?_
  refine Jz_iadd jEq.rf jEq.rf dX0_isEven_2 (by omega) (by omega) (fun y2 he2 => ?_)
  refine Jz_iconst 1 dX0_isEven_3 (by decide) (fun y3 he3 => ?_)
  refine J_iand dX0_isEven_4 ?_
  have hz4 : jEq (y2 &&& y3).toInt ((x0.toInt + x1.toInt) % 2) := by rw [show y3 = 1 from jI_inj.mp he3.eq, jand1 y2, he2.eq]; rfl
  generalize y2 &&& y3 = y4 at hz4 ⊢
  refine Jz_if_ne (tgt := 12) hz4 dX0_isEven_5 (by decide) (fun c5 => ?_) (fun c5 => ?_)
  · refine Jz_iconst 0 dX0_isEven_12 (by decide) (fun y12 he12 => ?_)
    exact J_ret (r := some (.int _)) dX0_isEven_13 ⟨rfl, _, rfl, (nar_b (by (try simp only [he12.eq, true_and, and_true]) <;> omega) (by (try simp only [he12.eq, true_and, and_true]) <;> omega))⟩ (⟨⟨_, rfl, (by (try simp only [he12.eq, true_and, and_true]) <;> omega), (by (try simp only [he12.eq, true_and, and_true]) <;> omega), (by (try simp only [he12.eq, true_and, and_true]) <;> omega)⟩, rfl⟩)
  · refine Jz_iconst 1 dX0_isEven_8 (by decide) (fun y8 he8 => ?_)
    refine J_goto (tgt := 13) dX0_isEven_9 (by decide) ?_
    exact J_ret (r := some (.int _)) dX0_isEven_13 ⟨rfl, _, rfl, (nar_b (by (try simp only [he8.eq, true_and, and_true]) <;> omega) (by (try simp only [he8.eq, true_and, and_true]) <;> omega))⟩ (⟨⟨_, rfl, (by (try simp only [he8.eq, true_and, and_true]) <;> omega), (by (try simp only [he8.eq, true_and, and_true]) <;> omega), (by (try simp only [he8.eq, true_and, and_true]) <;> omega)⟩, rfl⟩)
set_option maxRecDepth 100000 in
set_option maxHeartbeats 8000000 in
theorem w_X0_shiftY_z {tS : jTS} (d : Nat) (V0 : jH) (x0 : Int32) (x1 : Int32) (x2 : Int32) (x3 : Int32) (hd : 1 ≤ d)  (hp0 : 0 ≤ x0.toInt) (hp1 : x0.toInt ≤ 3) (hp2 : 0 ≤ x1.toInt) (hp3 : x1.toInt < jdir x0.toInt) (hp4 : -1000 ≤ x2.toInt) (hp5 : x2.toInt ≤ 1000) (hp6 : -1000 ≤ x3.toInt) (hp7 : x3.toInt ≤ 1000) : jTot tS mX0_shiftY d [.int x0, .int x1, .int x2, .int x3] V0 0 0 (fun r V => (fun r _ => ∃ y : Int32, r = some (.int y) ∧ ((-2147483648) ≤ y.toInt) ∧ (y.toInt ≤ 2147483647) ∧ (y.toInt = jsy x0.toInt x1.toInt (x2.toInt + x3.toInt))) r V ∧ V = V0) := by
  refine jTot.of_J [some (.int x0), some (.int x1), some (.int x2), some (.int x3), none] moX0_shiftY (Nat.le_of_ble_eq_true rfl) rfl ?_
  have hrx0 := j_rng x0
  have hrx1 := j_rng x1
  have hrx2 := j_rng x2
  have hrx3 := j_rng x3
  have hjd := jdir_cases x0.toInt
  refine J_iload_n dX0_shiftY_0 rfl ?_
  refine Jz_iconst 2 dX0_shiftY_1 (by decide) (fun y1 he1 => ?_)
  refine Jz_icmp_ne (tgt := 24) jEq.rf he1 dX0_shiftY_2 (by decide) (fun c2 => ?_) (fun c2 => ?_)
  · refine Jz_bipush 6 dX0_shiftY_24 (by decide) (fun y24 he24 => ?_)
    refine J_iload_n dX0_shiftY_26 rfl ?_
    refine Jz_imul he24 jEq.rf dX0_shiftY_27 (by omega) (by omega) (fun y27 he27 => ?_)
    refine J_iload_n dX0_shiftY_28 rfl ?_
    refine Jz_iadd he27 jEq.rf dX0_shiftY_29 (by omega) (by omega) (fun y29 he29 => ?_)
    refine J_istore dX0_shiftY_30 rfl (by decide) ?_
    refine J_iload dX0_shiftY_32 rfl ?_
    refine Jz_if_lt (tgt := 55) he29 dX0_shiftY_34 (by decide) (fun c34 => ?_) (fun c34 => ?_)
    · exact False.elim (by omega)
    · refine J_iload dX0_shiftY_37 rfl ?_
      refine J_gets (k := 1) rfl jw_fl_X0_26 dX0_shiftY_39 ?_
      refine J_tlen (k := 1) (v := Int32.ofNat 24) rfl dX0_shiftY_42 rfl ?_
      have he42 : jEq (Int32.ofNat 24).toInt 24 := nI_toInt (by decide)
      generalize Int32.ofNat 24 = y42 at he42 ⊢
      refine Jz_icmp_ge (tgt := 55) he29 he42 dX0_shiftY_43 (by decide) (fun c43 => ?_) (fun c43 => ?_)
      · exact False.elim (by omega)
      · refine J_gets (k := 1) rfl jw_fl_X0_26 dX0_shiftY_46 ?_
        refine J_iload dX0_shiftY_49 rfl ?_
        refine J_ti (k := 1) (v := .int (jSv1.getD y29.toNatClampNeg 0)) rfl rfl dX0_shiftY_51 (vp_in_n (by (try simp only [he29.eq, true_and, and_true]) <;> omega) (by (try simp only [he29.eq, true_and, and_true]) <;> omega)) rfl ?_
        have hz51 : jEq (jSv1.getD y29.toNatClampNeg 0).toInt (jsy x0.toInt x1.toInt (x2.toInt + x3.toInt)) := (jtaby _ (by omega) (by omega) (by omega) (by omega) he29.eq (by omega))
        generalize jSv1.getD y29.toNatClampNeg 0 = y51 at hz51 ⊢
        refine J_goto (tgt := 56) dX0_shiftY_52 (by decide) ?_
        exact J_ret (r := some (.int _)) dX0_shiftY_56 ⟨rfl, _, rfl, rfl⟩ (⟨⟨_, rfl, (j_rng _).1, (j_rng _).2, (by first | ((try simp only [hz51.eq, true_and, and_true]) <;> omega) | ((try simp only [hz51.eq]); unfold jsy; (repeat' split) <;> omega))⟩, rfl⟩)
  · refine J_iload_n dX0_shiftY_5 rfl ?_
    refine Jz_iconst 2 dX0_shiftY_6 (by decide) (fun y6 he6 => ?_)
    refine Jz_icmp_ne (tgt := 24) jEq.rf he6 dX0_shiftY_7 (by decide) (fun c7 => ?_) (fun c7 => ?_)
    · refine Jz_bipush 6 dX0_shiftY_24 (by decide) (fun y24 he24 => ?_)
      refine J_iload_n dX0_shiftY_26 rfl ?_
      refine Jz_imul he24 jEq.rf dX0_shiftY_27 (by omega) (by omega) (fun y27 he27 => ?_)
      refine J_iload_n dX0_shiftY_28 rfl ?_
      refine Jz_iadd he27 jEq.rf dX0_shiftY_29 (by omega) (by omega) (fun y29 he29 => ?_)
      refine J_istore dX0_shiftY_30 rfl (by decide) ?_
      refine J_iload dX0_shiftY_32 rfl ?_
      refine Jz_if_lt (tgt := 55) he29 dX0_shiftY_34 (by decide) (fun c34 => ?_) (fun c34 => ?_)
      · exact False.elim (by omega)
      · refine J_iload dX0_shiftY_37 rfl ?_
        refine J_gets (k := 1) rfl jw_fl_X0_26 dX0_shiftY_39 ?_
        refine J_tlen (k := 1) (v := Int32.ofNat 24) rfl dX0_shiftY_42 rfl ?_
        have he42 : jEq (Int32.ofNat 24).toInt 24 := nI_toInt (by decide)
        generalize Int32.ofNat 24 = y42 at he42 ⊢
        refine Jz_icmp_ge (tgt := 55) he29 he42 dX0_shiftY_43 (by decide) (fun c43 => ?_) (fun c43 => ?_)
        · exact False.elim (by omega)
        · refine J_gets (k := 1) rfl jw_fl_X0_26 dX0_shiftY_46 ?_
          refine J_iload dX0_shiftY_49 rfl ?_
          refine J_ti (k := 1) (v := .int (jSv1.getD y29.toNatClampNeg 0)) rfl rfl dX0_shiftY_51 (vp_in_n (by (try simp only [he29.eq, true_and, and_true]) <;> omega) (by (try simp only [he29.eq, true_and, and_true]) <;> omega)) rfl ?_
          have hz51 : jEq (jSv1.getD y29.toNatClampNeg 0).toInt (jsy x0.toInt x1.toInt (x2.toInt + x3.toInt)) := (jtaby _ (by omega) (by omega) (by omega) (by omega) he29.eq (by omega))
          generalize jSv1.getD y29.toNatClampNeg 0 = y51 at hz51 ⊢
          refine J_goto (tgt := 56) dX0_shiftY_52 (by decide) ?_
          exact J_ret (r := some (.int _)) dX0_shiftY_56 ⟨rfl, _, rfl, rfl⟩ (⟨⟨_, rfl, (j_rng _).1, (j_rng _).2, (by first | ((try simp only [hz51.eq, true_and, and_true]) <;> omega) | ((try simp only [hz51.eq]); unfold jsy; (repeat' split) <;> omega))⟩, rfl⟩)
    · refine J_iload_n dX0_shiftY_10 rfl ?_
      refine J_iload_n dX0_shiftY_11 rfl ?_
      refine J_callS2 moX0_isEven jw_ml_X0_22 jw_st_X0_isEven dX0_shiftY_12 (w_X0_isEven_z (d - 1) _ x2 x3 (by omega)   (by omega) (by omega) (by omega) (by omega)) (by omega) (Nat.zero_le _) (Nat.zero_le _) (Nat.le_of_ble_eq_true rfl) (fun r12 V12 h12 => ?_)
      obtain ⟨⟨y12, rfl, hl12, hh12, hP12_0⟩, hE12⟩ := h12
      have hE12 := hE12.symm
      subst hE12
      refine Jz_if_eq (tgt := 22) jEq.rf dX0_shiftY_15 (by decide) (fun c15 => ?_) (fun c15 => ?_)
      · refine Jz_iconst (-1) dX0_shiftY_22 (by decide) (fun y22 he22 => ?_)
        exact J_ret (r := some (.int _)) dX0_shiftY_23 ⟨rfl, _, rfl, rfl⟩ (⟨⟨_, rfl, (j_rng _).1, (j_rng _).2, (by first | ((try simp only [he22.eq, true_and, and_true]) <;> omega) | ((try simp only [he22.eq]); unfold jsy; (repeat' split) <;> omega))⟩, rfl⟩)
      · refine Jz_iconst 1 dX0_shiftY_18 (by decide) (fun y18 he18 => ?_)
        refine J_goto (tgt := 23) dX0_shiftY_19 (by decide) ?_
        exact J_ret (r := some (.int _)) dX0_shiftY_23 ⟨rfl, _, rfl, rfl⟩ (⟨⟨_, rfl, (j_rng _).1, (j_rng _).2, (by first | ((try simp only [he18.eq, true_and, and_true]) <;> omega) | ((try simp only [he18.eq]); unfold jsy; (repeat' split) <;> omega))⟩, rfl⟩)
set_option maxRecDepth 100000 in
set_option maxHeartbeats 8000000 in
theorem w_X0_shiftZ_z {tS : jTS} (d : Nat) (V0 : jH) (x0 : Int32) (x1 : Int32) (hd : 0 ≤ d)  (hp0 : 0 ≤ x0.toInt) (hp1 : x0.toInt ≤ 3) (hp2 : 0 ≤ x1.toInt) (hp3 : x1.toInt < jdir x0.toInt) : jTot tS mX0_shiftZ d [.int x0, .int x1] V0 0 0 (fun r V => (fun r _ => ∃ y : Int32, r = some (.int y) ∧ ((-2147483648) ≤ y.toInt) ∧ (y.toInt ≤ 2147483647) ∧ (y.toInt = jsz x0.toInt x1.toInt)) r V ∧ V = V0) := by
  refine jTot.of_J [some (.int x0), some (.int x1)] moX0_shiftZ (Nat.le_of_ble_eq_true rfl) rfl ?_
  have hrx0 := j_rng x0
  have hrx1 := j_rng x1
  have hjd := jdir_cases x0.toInt
  refine J_iload_n dX0_shiftZ_0 rfl ?_
  refine Jz_iconst 3 dX0_shiftZ_1 (by decide) (fun y1 he1 => ?_)
  refine Jz_icmp_eq (tgt := 7) jEq.rf he1 dX0_shiftZ_2 (by decide) (fun c2 => ?_) (fun c2 => ?_)
  · refine J_iload_n dX0_shiftZ_7 rfl ?_
    refine Jz_iconst 2 dX0_shiftZ_8 (by decide) (fun y8 he8 => ?_)
    refine Jz_icmp_ne (tgt := 16) jEq.rf he8 dX0_shiftZ_9 (by decide) (fun c9 => ?_) (fun c9 => ?_)
    · refine J_iload_n dX0_shiftZ_16 rfl ?_
      refine Jz_iconst 5 dX0_shiftZ_17 (by decide) (fun y17 he17 => ?_)
      refine Jz_icmp_ne (tgt := 25) jEq.rf he17 dX0_shiftZ_18 (by decide) (fun c18 => ?_) (fun c18 => ?_)
      · refine Jz_iconst 0 dX0_shiftZ_25 (by decide) (fun y25 he25 => ?_)
        exact J_ret (r := some (.int _)) dX0_shiftZ_26 ⟨rfl, _, rfl, rfl⟩ (⟨⟨_, rfl, (j_rng _).1, (j_rng _).2, (by first | ((try simp only [he25.eq, true_and, and_true]) <;> omega) | ((try simp only [he25.eq]); unfold jsz; (repeat' split) <;> omega))⟩, rfl⟩)
      · refine Jz_iconst (-1) dX0_shiftZ_21 (by decide) (fun y21 he21 => ?_)
        refine J_goto (tgt := 26) dX0_shiftZ_22 (by decide) ?_
        exact J_ret (r := some (.int _)) dX0_shiftZ_26 ⟨rfl, _, rfl, rfl⟩ (⟨⟨_, rfl, (j_rng _).1, (j_rng _).2, (by first | ((try simp only [he21.eq, true_and, and_true]) <;> omega) | ((try simp only [he21.eq]); unfold jsz; (repeat' split) <;> omega))⟩, rfl⟩)
    · refine Jz_iconst 1 dX0_shiftZ_12 (by decide) (fun y12 he12 => ?_)
      refine J_goto (tgt := 26) dX0_shiftZ_13 (by decide) ?_
      exact J_ret (r := some (.int _)) dX0_shiftZ_26 ⟨rfl, _, rfl, rfl⟩ (⟨⟨_, rfl, (j_rng _).1, (j_rng _).2, (by first | ((try simp only [he12.eq, true_and, and_true]) <;> omega) | ((try simp only [he12.eq]); unfold jsz; (repeat' split) <;> omega))⟩, rfl⟩)
  · refine Jz_iconst 0 dX0_shiftZ_5 (by decide) (fun y5 he5 => ?_)
    exact J_ret (r := some (.int _)) dX0_shiftZ_6 ⟨rfl, _, rfl, rfl⟩ (⟨⟨_, rfl, (j_rng _).1, (j_rng _).2, (by first | ((try simp only [he5.eq, true_and, and_true]) <;> omega) | ((try simp only [he5.eq]); unfold jsz; (repeat' split) <;> omega))⟩, rfl⟩)
set_option maxRecDepth 100000 in
set_option maxHeartbeats 8000000 in
theorem w_X0_opposite_z {tS : jTS} (d : Nat) (V0 : jH) (x0 : Int32) (x1 : Int32) (hd : 1 ≤ d)  (hp0 : 0 ≤ x0.toInt) (hp1 : x0.toInt ≤ 3) (hp2 : 0 ≤ x1.toInt) (hp3 : x1.toInt < jdir x0.toInt) : jTot tS mX0_opposite d [.int x0, .int x1] V0 0 0 (fun r V => (fun r _ => ∃ y : Int32, r = some (.int y) ∧ ((-2147483648) ≤ y.toInt) ∧ (y.toInt ≤ 2147483647) ∧ (y.toInt = jopp x0.toInt x1.toInt)) r V ∧ V = V0) := by
  refine jTot.of_J [some (.int x0), some (.int x1), none] moX0_opposite (Nat.le_of_ble_eq_true rfl) rfl ?_
  have hrx0 := j_rng x0
  have hrx1 := j_rng x1
  have hjd := jdir_cases x0.toInt
  refine J_iload_n dX0_opposite_0 rfl ?_
  refine Jz_iconst 2 dX0_opposite_1 (by decide) (fun y1 he1 => ?_)
  refine Jz_icmp_ne (tgt := 18) jEq.rf he1 dX0_opposite_2 (by decide) (fun c2 => ?_) (fun c2 => ?_)
  · refine J_iload_n dX0_opposite_18 rfl ?_
    refine J_callS1 moX0_directions jw_ml_X0_9 jw_st_X0_directions dX0_opposite_19 (w_X0_directions_z (d - 1) _ x0 (by omega)   ) (by omega) (Nat.zero_le _) (Nat.zero_le _) (Nat.le_of_ble_eq_true rfl) (fun r19 V19 h19 => ?_)
    obtain ⟨⟨y19, rfl, hl19, hh19, hP19_0⟩, hE19⟩ := h19
    have hE19 := hE19.symm
    subst hE19
    have hz19 : jEq y19.toInt (jdir (x0.toInt)) := hP19_0
    simp only [hP19_0] at hl19 hh19
    clear hP19_0
    refine Jz_iconst 2 dX0_opposite_22 (by decide) (fun y22 he22 => ?_)
    refine Jz_idivC hz19 he22 dX0_opposite_23 (by omega) (by omega) (fun y23 he23 => ?_)
    refine J_istore_n dX0_opposite_24 rfl (by decide) ?_
    refine J_iload_n dX0_opposite_25 rfl ?_
    refine J_iload_n dX0_opposite_26 rfl ?_
    refine Jz_icmp_ge (tgt := 36) jEq.rf he23 dX0_opposite_27 (by decide) (fun c27 => ?_) (fun c27 => ?_)
    · refine J_iload_n dX0_opposite_36 rfl ?_
      refine J_iload_n dX0_opposite_37 rfl ?_
      refine Jz_isub jEq.rf he23 dX0_opposite_38 (by omega) (by omega) (fun y38 he38 => ?_)
      exact J_ret (r := some (.int _)) dX0_opposite_39 ⟨rfl, _, rfl, rfl⟩ (⟨⟨_, rfl, (j_rng _).1, (j_rng _).2, (by first | ((try simp only [he38.eq, true_and, and_true]) <;> omega) | ((try simp only [he38.eq]); unfold jopp; (repeat' split) <;> omega))⟩, rfl⟩)
    · refine J_iload_n dX0_opposite_30 rfl ?_
      refine J_iload_n dX0_opposite_31 rfl ?_
      refine Jz_iadd jEq.rf he23 dX0_opposite_32 (by omega) (by omega) (fun y32 he32 => ?_)
      refine J_goto (tgt := 39) dX0_opposite_33 (by decide) ?_
      exact J_ret (r := some (.int _)) dX0_opposite_39 ⟨rfl, _, rfl, rfl⟩ (⟨⟨_, rfl, (j_rng _).1, (j_rng _).2, (by first | ((try simp only [he32.eq, true_and, and_true]) <;> omega) | ((try simp only [he32.eq]); unfold jopp; (repeat' split) <;> omega))⟩, rfl⟩)
  · refine J_iload_n dX0_opposite_5 rfl ?_
    refine Jz_iconst 2 dX0_opposite_6 (by decide) (fun y6 he6 => ?_)
    refine Jz_icmp_ne (tgt := 14) jEq.rf he6 dX0_opposite_7 (by decide) (fun c7 => ?_) (fun c7 => ?_)
    · refine Jz_iconst 1 dX0_opposite_14 (by decide) (fun y14 he14 => ?_)
      refine J_iload_n dX0_opposite_15 rfl ?_
      refine Jz_isub he14 jEq.rf dX0_opposite_16 (by omega) (by omega) (fun y16 he16 => ?_)
      exact J_ret (r := some (.int _)) dX0_opposite_17 ⟨rfl, _, rfl, rfl⟩ (⟨⟨_, rfl, (j_rng _).1, (j_rng _).2, (by first | ((try simp only [he16.eq, true_and, and_true]) <;> omega) | ((try simp only [he16.eq]); unfold jopp; (repeat' split) <;> omega))⟩, rfl⟩)
    · refine Jz_iconst 2 dX0_opposite_10 (by decide) (fun y10 he10 => ?_)
      refine J_goto (tgt := 17) dX0_opposite_11 (by decide) ?_
      exact J_ret (r := some (.int _)) dX0_opposite_17 ⟨rfl, _, rfl, rfl⟩ (⟨⟨_, rfl, (j_rng _).1, (j_rng _).2, (by first | ((try simp only [he10.eq, true_and, and_true]) <;> omega) | ((try simp only [he10.eq]); unfold jopp; (repeat' split) <;> omega))⟩, rfl⟩)
set_option maxRecDepth 100000 in
set_option maxHeartbeats 8000000 in
theorem w_X0_turns_z {tS : jTS} (d : Nat) (V0 : jH) (x0 : Int32) (hd : 0 ≤ d)  (hp0 : 0 ≤ x0.toInt) (hp1 : x0.toInt ≤ 3) : jTot tS mX0_turns d [.int x0] V0 0 0 (fun r V => (fun r _ => ∃ y : Int32, r = some (.int y) ∧ ((-2147483648) ≤ y.toInt) ∧ (y.toInt ≤ 2147483647) ∧ (y.toInt = jtur x0.toInt)) r V ∧ V = V0) := by
  refine jTot.of_J [some (.int x0)] moX0_turns (Nat.le_of_ble_eq_true rfl) rfl ?_
  have hrx0 := j_rng x0
  refine J_iload_n dX0_turns_0 rfl ?_
  rcases jsw3 x0 with hx1 | hx1 | hx1 | hx1 | hx1 | hx1
  · have hx1t : x0.toInt = 0 := by rw [hx1]; rfl
    clear hx1
    refine J_tableIn (tgt := 32) dX0_turns_1 (by omega) (by omega) (by rw [hx1t]; rfl) (by decide) ?_
    refine Jz_bipush 8 dX0_turns_32 (by decide) (fun y32 he32 => ?_)
    exact J_ret (r := some (.int _)) dX0_turns_34 ⟨rfl, _, rfl, rfl⟩ (⟨⟨_, rfl, (j_rng _).1, (j_rng _).2, (by first | ((try simp only [he32.eq, true_and, and_true]) <;> omega) | ((try simp only [he32.eq]); unfold jtur; (repeat' split) <;> omega))⟩, rfl⟩)
  · have hx1t : x0.toInt = 1 := by rw [hx1]; rfl
    clear hx1
    refine J_tableIn (tgt := 35) dX0_turns_1 (by omega) (by omega) (by rw [hx1t]; rfl) (by decide) ?_
    refine Jz_bipush 12 dX0_turns_35 (by decide) (fun y35 he35 => ?_)
    exact J_ret (r := some (.int _)) dX0_turns_37 ⟨rfl, _, rfl, rfl⟩ (⟨⟨_, rfl, (j_rng _).1, (j_rng _).2, (by first | ((try simp only [he35.eq, true_and, and_true]) <;> omega) | ((try simp only [he35.eq]); unfold jtur; (repeat' split) <;> omega))⟩, rfl⟩)
  · have hx1t : x0.toInt = 2 := by rw [hx1]; rfl
    clear hx1
    refine J_tableIn (tgt := 41) dX0_turns_1 (by omega) (by omega) (by rw [hx1t]; rfl) (by decide) ?_
    refine Jz_iconst 0 dX0_turns_41 (by decide) (fun y41 he41 => ?_)
    exact J_ret (r := some (.int _)) dX0_turns_42 ⟨rfl, _, rfl, rfl⟩ (⟨⟨_, rfl, (j_rng _).1, (j_rng _).2, (by first | ((try simp only [he41.eq, true_and, and_true]) <;> omega) | ((try simp only [he41.eq]); unfold jtur; (repeat' split) <;> omega))⟩, rfl⟩)
  · have hx1t : x0.toInt = 3 := by rw [hx1]; rfl
    clear hx1
    refine J_tableIn (tgt := 38) dX0_turns_1 (by omega) (by omega) (by rw [hx1t]; rfl) (by decide) ?_
    refine Jz_bipush 48 dX0_turns_38 (by decide) (fun y38 he38 => ?_)
    exact J_ret (r := some (.int _)) dX0_turns_40 ⟨rfl, _, rfl, rfl⟩ (⟨⟨_, rfl, (j_rng _).1, (j_rng _).2, (by first | ((try simp only [he38.eq, true_and, and_true]) <;> omega) | ((try simp only [he38.eq]); unfold jtur; (repeat' split) <;> omega))⟩, rfl⟩)
  · refine J_tableOut (tgt := 41) dX0_turns_1 (Or.inl hx1) (by decide) ?_
    refine Jz_iconst 0 dX0_turns_41 (by decide) (fun y41 he41 => ?_)
    exact J_ret (r := some (.int _)) dX0_turns_42 ⟨rfl, _, rfl, rfl⟩ (⟨⟨_, rfl, (j_rng _).1, (j_rng _).2, (by first | ((try simp only [he41.eq, true_and, and_true]) <;> omega) | ((try simp only [he41.eq]); unfold jtur; (repeat' split) <;> omega))⟩, rfl⟩)
  · refine J_tableOut (tgt := 41) dX0_turns_1 (Or.inr hx1) (by decide) ?_
    refine Jz_iconst 0 dX0_turns_41 (by decide) (fun y41 he41 => ?_)
    exact J_ret (r := some (.int _)) dX0_turns_42 ⟨rfl, _, rfl, rfl⟩ (⟨⟨_, rfl, (j_rng _).1, (j_rng _).2, (by first | ((try simp only [he41.eq, true_and, and_true]) <;> omega) | ((try simp only [he41.eq]); unfold jtur; (repeat' split) <;> omega))⟩, rfl⟩)
set_option maxRecDepth 100000 in
set_option maxHeartbeats 8000000 in
theorem w_X0_isTurn_z {tS : jTS} (d : Nat) (V0 : jH) (x0 : Int32) (x1 : Int32) (hd : 1 ≤ d)  (hp0 : 0 ≤ x0.toInt) (hp1 : x0.toInt ≤ 3) : jTot tS mX0_isTurn d [.int x0, .int x1] V0 0 0 (fun r V => (fun r _ => ∃ y : Int32, r = some (.int y) ∧ (0 ≤ y.toInt) ∧ (y.toInt ≤ 1) ∧ ((y.toInt = 1 ∧ 0 ≤ x1.toInt ∧ x1.toInt < jtur x0.toInt) ∨ (y.toInt = 0 ∧ ¬ (0 ≤ x1.toInt ∧ x1.toInt < jtur x0.toInt)))) r V ∧ V = V0) := by
  refine jTot.of_J [some (.int x0), some (.int x1)] moX0_isTurn (Nat.le_of_ble_eq_true rfl) rfl ?_
  have hrx0 := j_rng x0
  have hrx1 := j_rng x1
  refine J_iload_n dX0_isTurn_0 rfl ?_
  refine Jz_if_lt (tgt := 16) jEq.rf dX0_isTurn_1 (by decide) (fun c1 => ?_) (fun c1 => ?_)
  · refine Jz_iconst 0 dX0_isTurn_16 (by decide) (fun y16 he16 => ?_)
    exact J_ret (r := some (.int _)) dX0_isTurn_17 ⟨rfl, _, rfl, (nar_b (by (try simp only [he16.eq, true_and, and_true]) <;> omega) (by (try simp only [he16.eq, true_and, and_true]) <;> omega))⟩ (⟨⟨_, rfl, (by (try simp only [he16.eq, true_and, and_true]) <;> omega), (by (try simp only [he16.eq, true_and, and_true]) <;> omega), (by (try simp only [he16.eq, true_and, and_true]) <;> omega)⟩, rfl⟩)
  · refine J_iload_n dX0_isTurn_4 rfl ?_
    refine J_iload_n dX0_isTurn_5 rfl ?_
    refine J_callS1 moX0_turns jw_ml_X0_15 jw_st_X0_turns dX0_isTurn_6 (w_X0_turns_z (d - 1) _ x0 (by omega)   (by omega) (by omega)) (by omega) (Nat.zero_le _) (Nat.zero_le _) (Nat.le_of_ble_eq_true rfl) (fun r6 V6 h6 => ?_)
    obtain ⟨⟨y6, rfl, hl6, hh6, hP6_0⟩, hE6⟩ := h6
    have hE6 := hE6.symm
    subst hE6
    clear hl6 hh6
    have hz6 : jEq y6.toInt (jtur (x0.toInt)) := hP6_0
    clear hP6_0
    refine Jz_icmp_ge (tgt := 16) jEq.rf hz6 dX0_isTurn_9 (by decide) (fun c9 => ?_) (fun c9 => ?_)
    · refine Jz_iconst 0 dX0_isTurn_16 (by decide) (fun y16 he16 => ?_)
      exact J_ret (r := some (.int _)) dX0_isTurn_17 ⟨rfl, _, rfl, (nar_b (by (try simp only [he16.eq, true_and, and_true]) <;> omega) (by (try simp only [he16.eq, true_and, and_true]) <;> omega))⟩ (⟨⟨_, rfl, (by (try simp only [he16.eq, true_and, and_true]) <;> omega), (by (try simp only [he16.eq, true_and, and_true]) <;> omega), (by (try simp only [he16.eq, true_and, and_true]) <;> omega)⟩, rfl⟩)
    · refine Jz_iconst 1 dX0_isTurn_12 (by decide) (fun y12 he12 => ?_)
      refine J_goto (tgt := 17) dX0_isTurn_13 (by decide) ?_
      exact J_ret (r := some (.int _)) dX0_isTurn_17 ⟨rfl, _, rfl, (nar_b (by (try simp only [he12.eq, true_and, and_true]) <;> omega) (by (try simp only [he12.eq, true_and, and_true]) <;> omega))⟩ (⟨⟨_, rfl, (by (try simp only [he12.eq, true_and, and_true]) <;> omega), (by (try simp only [he12.eq, true_and, and_true]) <;> omega), (by (try simp only [he12.eq, true_and, and_true]) <;> omega)⟩, rfl⟩)
set_option maxRecDepth 100000 in
set_option maxHeartbeats 8000000 in
theorem w_X0_isDirection_z {tS : jTS} (d : Nat) (V0 : jH) (x0 : Int32) (x1 : Int32) (hd : 1 ≤ d)  (hp0 : 0 ≤ x0.toInt) (hp1 : x0.toInt ≤ 3) : jTot tS mX0_isDirection d [.int x0, .int x1] V0 0 0 (fun r V => (fun r _ => ∃ y : Int32, r = some (.int y) ∧ (0 ≤ y.toInt) ∧ (y.toInt ≤ 1) ∧ ((y.toInt = 1 ∧ 0 ≤ x1.toInt ∧ x1.toInt < jdir x0.toInt) ∨ (y.toInt = 0 ∧ ¬ (0 ≤ x1.toInt ∧ x1.toInt < jdir x0.toInt)))) r V ∧ V = V0) := by
  refine jTot.of_J [some (.int x0), some (.int x1)] moX0_isDirection (Nat.le_of_ble_eq_true rfl) rfl ?_
  have hrx0 := j_rng x0
  have hrx1 := j_rng x1
  refine J_iload_n dX0_isDirection_0 rfl ?_
  refine Jz_if_lt (tgt := 16) jEq.rf dX0_isDirection_1 (by decide) (fun c1 => ?_) (fun c1 => ?_)
  · refine Jz_iconst 0 dX0_isDirection_16 (by decide) (fun y16 he16 => ?_)
    exact J_ret (r := some (.int _)) dX0_isDirection_17 ⟨rfl, _, rfl, (nar_b (by (try simp only [he16.eq, true_and, and_true]) <;> omega) (by (try simp only [he16.eq, true_and, and_true]) <;> omega))⟩ (⟨⟨_, rfl, (by (try simp only [he16.eq, true_and, and_true]) <;> omega), (by (try simp only [he16.eq, true_and, and_true]) <;> omega), (by (try simp only [he16.eq, true_and, and_true]) <;> omega)⟩, rfl⟩)
  · refine J_iload_n dX0_isDirection_4 rfl ?_
    refine J_iload_n dX0_isDirection_5 rfl ?_
    refine J_callS1 moX0_directions jw_ml_X0_9 jw_st_X0_directions dX0_isDirection_6 (w_X0_directions_z (d - 1) _ x0 (by omega)   ) (by omega) (Nat.zero_le _) (Nat.zero_le _) (Nat.le_of_ble_eq_true rfl) (fun r6 V6 h6 => ?_)
    obtain ⟨⟨y6, rfl, hl6, hh6, hP6_0⟩, hE6⟩ := h6
    have hE6 := hE6.symm
    subst hE6
    have hz6 : jEq y6.toInt (jdir (x0.toInt)) := hP6_0
    simp only [hP6_0] at hl6 hh6
    clear hP6_0
    refine Jz_icmp_ge (tgt := 16) jEq.rf hz6 dX0_isDirection_9 (by decide) (fun c9 => ?_) (fun c9 => ?_)
    · refine Jz_iconst 0 dX0_isDirection_16 (by decide) (fun y16 he16 => ?_)
      exact J_ret (r := some (.int _)) dX0_isDirection_17 ⟨rfl, _, rfl, (nar_b (by (try simp only [he16.eq, true_and, and_true]) <;> omega) (by (try simp only [he16.eq, true_and, and_true]) <;> omega))⟩ (⟨⟨_, rfl, (by (try simp only [he16.eq, true_and, and_true]) <;> omega), (by (try simp only [he16.eq, true_and, and_true]) <;> omega), (by (try simp only [he16.eq, true_and, and_true]) <;> omega)⟩, rfl⟩)
    · refine Jz_iconst 1 dX0_isDirection_12 (by decide) (fun y12 he12 => ?_)
      refine J_goto (tgt := 17) dX0_isDirection_13 (by decide) ?_
      exact J_ret (r := some (.int _)) dX0_isDirection_17 ⟨rfl, _, rfl, (nar_b (by (try simp only [he12.eq, true_and, and_true]) <;> omega) (by (try simp only [he12.eq, true_and, and_true]) <;> omega))⟩ (⟨⟨_, rfl, (by (try simp only [he12.eq, true_and, and_true]) <;> omega), (by (try simp only [he12.eq, true_and, and_true]) <;> omega), (by (try simp only [he12.eq, true_and, and_true]) <;> omega)⟩, rfl⟩)
set_option maxRecDepth 100000 in
set_option maxHeartbeats 8000000 in
theorem w_X0_turned_z {tS : jTS} (d : Nat) (V0 : jH) (x0 : Int32) (x1 : Int32) (x2 : Int32) (hd : 1 ≤ d)  (hp0 : 0 ≤ x0.toInt) (hp1 : x0.toInt ≤ 3) (hp2 : 0 ≤ x1.toInt) (hp3 : x1.toInt < jtur x0.toInt) (hp4 : 0 ≤ x2.toInt) (hp5 : x2.toInt < jdir x0.toInt) : jTot tS mX0_turned d [.int x0, .int x1, .int x2] V0 0 0 (fun r V => (fun r _ => ∃ y : Int32, r = some (.int y) ∧ ((-2147483648) ≤ y.toInt) ∧ (y.toInt ≤ 2147483647) ∧ (y.toInt = jtn x0.toInt x1.toInt x2.toInt)) r V ∧ V = V0) := by
  refine jTot.of_J [some (.int x0), some (.int x1), some (.int x2), none, none] moX0_turned (Nat.le_of_ble_eq_true rfl) rfl ?_
  have hrx0 := j_rng x0
  have hrx1 := j_rng x1
  have hrx2 := j_rng x2
  have hjd := jdir_cases x0.toInt
  have hjt := jtur_cases x0.toInt
  refine J_iload_n dX0_turned_0 rfl ?_
  refine Jz_iconst 2 dX0_turned_1 (by decide) (fun y1 he1 => ?_)
  refine Jz_icmp_ne (tgt := 7) jEq.rf he1 dX0_turned_2 (by decide) (fun c2 => ?_) (fun c2 => ?_)
  · refine J_iload_n dX0_turned_7 rfl ?_
    refine Jz_iconst 3 dX0_turned_8 (by decide) (fun y8 he8 => ?_)
    refine Jz_icmp_ne (tgt := 18) jEq.rf he8 dX0_turned_9 (by decide) (fun c9 => ?_) (fun c9 => ?_)
    · refine J_iload_n dX0_turned_18 rfl ?_
      refine J_callS1 moX0_directions jw_ml_X0_9 jw_st_X0_directions dX0_turned_19 (w_X0_directions_z (d - 1) _ x0 (by omega)   ) (by omega) (Nat.zero_le _) (Nat.zero_le _) (Nat.le_of_ble_eq_true rfl) (fun r19 V19 h19 => ?_)
      obtain ⟨⟨y19, rfl, hl19, hh19, hP19_0⟩, hE19⟩ := h19
      have hE19 := hE19.symm
      subst hE19
      have hz19 : jEq y19.toInt (jdir (x0.toInt)) := hP19_0
      simp only [hP19_0] at hl19 hh19
      clear hP19_0
      refine J_istore_n dX0_turned_22 rfl (by decide) ?_
      refine J_iload_n dX0_turned_23 rfl ?_
      refine J_iload_n dX0_turned_24 rfl ?_
      refine Jz_icmp_ge (tgt := 34) jEq.rf hz19 dX0_turned_25 (by decide) (fun c25 => ?_) (fun c25 => ?_)
      · refine J_iload_n dX0_turned_34 rfl ?_
        refine J_iload_n dX0_turned_35 rfl ?_
        refine Jz_isub jEq.rf jEq.rf dX0_turned_36 (by omega) (by omega) (fun y36 he36 => ?_)
        refine J_istore dX0_turned_37 rfl (by decide) ?_
        refine J_iload dX0_turned_39 rfl ?_
        refine J_iload_n dX0_turned_41 rfl ?_
        refine Jz_icmp_lt (tgt := 52) he36 hz19 dX0_turned_42 (by decide) (fun c42 => ?_) (fun c42 => ?_)
        · refine J_iload dX0_turned_52 rfl ?_
          exact J_ret (r := some (.int _)) dX0_turned_54 ⟨rfl, _, rfl, rfl⟩ (⟨⟨_, rfl, (j_rng _).1, (j_rng _).2, (by first | ((try simp only [he36.eq, true_and, and_true]) <;> omega) | ((try simp only [he36.eq]); unfold jtn; (repeat' split) <;> omega))⟩, rfl⟩)
        · refine J_iload dX0_turned_45 rfl ?_
          refine J_iload_n dX0_turned_47 rfl ?_
          refine Jz_isub he36 hz19 dX0_turned_48 (by omega) (by omega) (fun y48 he48 => ?_)
          refine J_goto (tgt := 54) dX0_turned_49 (by decide) ?_
          exact J_ret (r := some (.int _)) dX0_turned_54 ⟨rfl, _, rfl, rfl⟩ (⟨⟨_, rfl, (j_rng _).1, (j_rng _).2, (by first | ((try simp only [he48.eq, true_and, and_true]) <;> omega) | ((try simp only [he48.eq]); unfold jtn; (repeat' split) <;> omega))⟩, rfl⟩)
      · refine J_iload_n dX0_turned_28 rfl ?_
        refine J_iload_n dX0_turned_29 rfl ?_
        refine Jz_iadd jEq.rf jEq.rf dX0_turned_30 (by omega) (by omega) (fun y30 he30 => ?_)
        refine J_goto (tgt := 37) dX0_turned_31 (by decide) ?_
        refine J_istore dX0_turned_37 rfl (by decide) ?_
        refine J_iload dX0_turned_39 rfl ?_
        refine J_iload_n dX0_turned_41 rfl ?_
        refine Jz_icmp_lt (tgt := 52) he30 hz19 dX0_turned_42 (by decide) (fun c42 => ?_) (fun c42 => ?_)
        · refine J_iload dX0_turned_52 rfl ?_
          exact J_ret (r := some (.int _)) dX0_turned_54 ⟨rfl, _, rfl, rfl⟩ (⟨⟨_, rfl, (j_rng _).1, (j_rng _).2, (by first | ((try simp only [he30.eq, true_and, and_true]) <;> omega) | ((try simp only [he30.eq]); unfold jtn; (repeat' split) <;> omega))⟩, rfl⟩)
        · refine J_iload dX0_turned_45 rfl ?_
          refine J_iload_n dX0_turned_47 rfl ?_
          refine Jz_isub he30 hz19 dX0_turned_48 (by omega) (by omega) (fun y48 he48 => ?_)
          refine J_goto (tgt := 54) dX0_turned_49 (by decide) ?_
          exact J_ret (r := some (.int _)) dX0_turned_54 ⟨rfl, _, rfl, rfl⟩ (⟨⟨_, rfl, (j_rng _).1, (j_rng _).2, (by first | ((try simp only [he48.eq, true_and, and_true]) <;> omega) | ((try simp only [he48.eq]); unfold jtn; (repeat' split) <;> omega))⟩, rfl⟩)
    · refine J_iload_n dX0_turned_12 rfl ?_
      refine J_iload_n dX0_turned_13 rfl ?_
      refine J_callS2 moX0_turnedInCubes jw_ml_X0_29 jw_st_X0_turnedInCubes dX0_turned_14 (w_X0_turnedInCubes_z (d - 1) _ x1 x2 (by omega)   (by omega) (by omega) (by omega) (by omega)) (by omega) (Nat.zero_le _) (Nat.zero_le _) (Nat.le_of_ble_eq_true rfl) (fun r14 V14 h14 => ?_)
      obtain ⟨⟨y14, rfl, hl14, hh14, hP14_0⟩, hE14⟩ := h14
      have hE14 := hE14.symm
      subst hE14
      clear hl14 hh14
      have hz14 : jEq y14.toInt (jtc (x1.toInt) (x2.toInt)) := hP14_0
      clear hP14_0
      exact J_ret (r := some (.int _)) dX0_turned_17 ⟨rfl, _, rfl, rfl⟩ (⟨⟨_, rfl, (j_rng _).1, (j_rng _).2, (by first | ((try simp only [hz14.eq, true_and, and_true]) <;> omega) | ((try simp only [hz14.eq]); unfold jtn; (repeat' split) <;> omega))⟩, rfl⟩)
  · refine J_iload_n dX0_turned_5 rfl ?_
    exact J_ret (r := some (.int _)) dX0_turned_6 ⟨rfl, _, rfl, rfl⟩ (⟨⟨_, rfl, (j_rng _).1, (j_rng _).2, (by first | (omega) | (unfold jtn; (repeat' split) <;> omega))⟩, rfl⟩)
set_option maxRecDepth 100000 in
set_option maxHeartbeats 8000000 in
theorem w_X3_endX_z {tS : jTS} (d : Nat) (V0 : jH) {ln : Nat} (a0 : Nat) (M : Int32) (g : Int32) (n : Int32) (s : Nat) (xx : Nat) (yy : Nat) (zz : Nat) (S : Nat → Int32) (X : Nat → Int32) (Y : Nat → Int32) (Z : Nat → Int32) (hd : 1 ≤ d) (hW : WT V0) (ha0 : jis V0 (.inr 1) a0) (hf_M : jfI V0 a0 1 0 M) (hf_g : jfI V0 a0 1 5 g) (hf_n : jfI V0 a0 1 6 n) (hr_s : jfR V0 a0 1 1 s) (hr_xx : jfR V0 a0 1 2 xx) (hr_yy : jfR V0 a0 1 3 yy) (hr_zz : jfR V0 a0 1 4 zz) (ha_S : V0 s = some (.inl (6, ln, .inl S))) (ha_X : V0 xx = some (.inl (34, ln + 1, .inl X))) (ha_Y : V0 yy = some (.inl (35, ln + 1, .inl Y))) (ha_Z : V0 zz = some (.inl (36, ln + 1, .inl Z))) (hp0 : M.toInt = (ln : Int)) (hp1 : (ln : Int) ≤ 120) (hp2 : n.toInt ≤ M.toInt) : jTot tS mX3_endX d [.ref a0] V0 0 0 (fun r V => (fun r _ => ∃ y : Int32, r = some (.int y) ∧ ((-2147483648) ≤ y.toInt) ∧ (y.toInt ≤ 2147483647) ∧ (y.toInt = (X n.toInt.toNat).toInt)) r V ∧ V = V0) := by
  refine jTot.of_J [some (.ref a0)] moX3_endX (Nat.le_of_ble_eq_true rfl) rfl ?_
  have he : jeff [] V0 V0 := jeff.refl _ _
  obtain ⟨fs_a0, hO_a0, hK_a0⟩ := WT_obj hW id ha0
  have hF_M := hf_M.get hO_a0
  have hrM : 0 ≤ M.toInt ∧ M.toInt ≤ 120 := jok_rngI hK_a0 rfl hF_M
  have hF_g := hf_g.get hO_a0
  have hrg : (-2147483648) ≤ g.toInt ∧ g.toInt ≤ 2147483647 := jok_rngI hK_a0 rfl hF_g
  have hF_n := hf_n.get hO_a0
  have hrn : 0 ≤ n.toInt ∧ n.toInt ≤ 120 := jok_rngI hK_a0 rfl hF_n
  have hF_s := hr_s.get hO_a0
  obtain ⟨w_s, hFq_s, b_s, hbq_s, hb_s⟩ := hK_a0.2 1 (.inr (some (.inl 6))) rfl
  cases hF_s.symm.trans (hFq_s.trans (congrArg some hbq_s))
  have hF_xx := hr_xx.get hO_a0
  obtain ⟨w_xx, hFq_xx, b_xx, hbq_xx, hb_xx⟩ := hK_a0.2 2 (.inr (some (.inl 34))) rfl
  cases hF_xx.symm.trans (hFq_xx.trans (congrArg some hbq_xx))
  have hF_yy := hr_yy.get hO_a0
  obtain ⟨w_yy, hFq_yy, b_yy, hbq_yy, hb_yy⟩ := hK_a0.2 3 (.inr (some (.inl 35))) rfl
  cases hF_yy.symm.trans (hFq_yy.trans (congrArg some hbq_yy))
  have hF_zz := hr_zz.get hO_a0
  obtain ⟨w_zz, hFq_zz, b_zz, hbq_zz, hb_zz⟩ := hK_a0.2 4 (.inr (some (.inl 36))) rfl
  cases hF_zz.symm.trans (hFq_zz.trans (congrArg some hbq_zz))
  obtain ⟨hN_S, hv_S⟩ := WT_rngI (r := ((-2147483648), 2147483647)) hW id rfl ha_S
  clear hN_S
  obtain ⟨hN_X, hv_X⟩ := WT_rngI (r := ((-2147483648), 2147483647)) hW id rfl ha_X
  clear hN_X
  obtain ⟨hN_Y, hv_Y⟩ := WT_rngI (r := ((-2147483648), 2147483647)) hW id rfl ha_Y
  clear hN_Y
  obtain ⟨hN_Z, hv_Z⟩ := WT_rngI (r := ((-2147483648), 2147483647)) hW id rfl ha_Z
  clear hN_Z
  refine J_aload_n dX3_endX_0 rfl ?_
  refine J_get jf_X3_34 dX3_endX_1 hO_a0 hF_xx ?_
  refine J_aload_n dX3_endX_4 rfl ?_
  refine J_get jf_X3_15 dX3_endX_5 hO_a0 hF_n ?_
  refine J_callSN2 moX6_cell (host := "WalkGrounds") (List.mem_of_getElem? (i := 0) rfl) jw_st_X6_cell dX3_endX_8 (w_X6_cell_x (d - 1) _ xx n ha_X (WT_rngI (r := (-2147483648, 2147483647)) hW id rfl ha_X).1 rfl (by omega) (by omega)) (by omega) (Nat.zero_le _) (Nat.zero_le _) (Nat.le_of_ble_eq_true rfl) (fun r8 V8 h8 => ?_)
  obtain ⟨⟨y8, rfl, hf8⟩, hE8⟩ := h8
  have hE8 := hE8.symm
  subst hE8
  have hz8 : jEq y8.toInt (X (n.toInt).toNat).toInt := by rw [← hf8]; rfl
  clear hf8
  · exact J_ret (r := some (.int _)) dX3_endX_11 ⟨rfl, _, rfl, rfl⟩ (⟨⟨_, rfl, (j_rng _).1, (j_rng _).2, (by (try simp only [hz8.eq, true_and, and_true]) <;> omega)⟩, rfl⟩)
set_option maxRecDepth 100000 in
set_option maxHeartbeats 8000000 in
theorem w_X3_endY_z {tS : jTS} (d : Nat) (V0 : jH) {ln : Nat} (a0 : Nat) (M : Int32) (g : Int32) (n : Int32) (s : Nat) (xx : Nat) (yy : Nat) (zz : Nat) (S : Nat → Int32) (X : Nat → Int32) (Y : Nat → Int32) (Z : Nat → Int32) (hd : 1 ≤ d) (hW : WT V0) (ha0 : jis V0 (.inr 1) a0) (hf_M : jfI V0 a0 1 0 M) (hf_g : jfI V0 a0 1 5 g) (hf_n : jfI V0 a0 1 6 n) (hr_s : jfR V0 a0 1 1 s) (hr_xx : jfR V0 a0 1 2 xx) (hr_yy : jfR V0 a0 1 3 yy) (hr_zz : jfR V0 a0 1 4 zz) (ha_S : V0 s = some (.inl (6, ln, .inl S))) (ha_X : V0 xx = some (.inl (34, ln + 1, .inl X))) (ha_Y : V0 yy = some (.inl (35, ln + 1, .inl Y))) (ha_Z : V0 zz = some (.inl (36, ln + 1, .inl Z))) (hp0 : M.toInt = (ln : Int)) (hp1 : (ln : Int) ≤ 120) (hp2 : n.toInt ≤ M.toInt) : jTot tS mX3_endY d [.ref a0] V0 0 0 (fun r V => (fun r _ => ∃ y : Int32, r = some (.int y) ∧ ((-2147483648) ≤ y.toInt) ∧ (y.toInt ≤ 2147483647) ∧ (y.toInt = (Y n.toInt.toNat).toInt)) r V ∧ V = V0) := by
  refine jTot.of_J [some (.ref a0)] moX3_endY (Nat.le_of_ble_eq_true rfl) rfl ?_
  have he : jeff [] V0 V0 := jeff.refl _ _
  obtain ⟨fs_a0, hO_a0, hK_a0⟩ := WT_obj hW id ha0
  have hF_M := hf_M.get hO_a0
  have hrM : 0 ≤ M.toInt ∧ M.toInt ≤ 120 := jok_rngI hK_a0 rfl hF_M
  have hF_g := hf_g.get hO_a0
  have hrg : (-2147483648) ≤ g.toInt ∧ g.toInt ≤ 2147483647 := jok_rngI hK_a0 rfl hF_g
  have hF_n := hf_n.get hO_a0
  have hrn : 0 ≤ n.toInt ∧ n.toInt ≤ 120 := jok_rngI hK_a0 rfl hF_n
  have hF_s := hr_s.get hO_a0
  obtain ⟨w_s, hFq_s, b_s, hbq_s, hb_s⟩ := hK_a0.2 1 (.inr (some (.inl 6))) rfl
  cases hF_s.symm.trans (hFq_s.trans (congrArg some hbq_s))
  have hF_xx := hr_xx.get hO_a0
  obtain ⟨w_xx, hFq_xx, b_xx, hbq_xx, hb_xx⟩ := hK_a0.2 2 (.inr (some (.inl 34))) rfl
  cases hF_xx.symm.trans (hFq_xx.trans (congrArg some hbq_xx))
  have hF_yy := hr_yy.get hO_a0
  obtain ⟨w_yy, hFq_yy, b_yy, hbq_yy, hb_yy⟩ := hK_a0.2 3 (.inr (some (.inl 35))) rfl
  cases hF_yy.symm.trans (hFq_yy.trans (congrArg some hbq_yy))
  have hF_zz := hr_zz.get hO_a0
  obtain ⟨w_zz, hFq_zz, b_zz, hbq_zz, hb_zz⟩ := hK_a0.2 4 (.inr (some (.inl 36))) rfl
  cases hF_zz.symm.trans (hFq_zz.trans (congrArg some hbq_zz))
  obtain ⟨hN_S, hv_S⟩ := WT_rngI (r := ((-2147483648), 2147483647)) hW id rfl ha_S
  clear hN_S
  obtain ⟨hN_X, hv_X⟩ := WT_rngI (r := ((-2147483648), 2147483647)) hW id rfl ha_X
  clear hN_X
  obtain ⟨hN_Y, hv_Y⟩ := WT_rngI (r := ((-2147483648), 2147483647)) hW id rfl ha_Y
  clear hN_Y
  obtain ⟨hN_Z, hv_Z⟩ := WT_rngI (r := ((-2147483648), 2147483647)) hW id rfl ha_Z
  clear hN_Z
  refine J_aload_n dX3_endY_0 rfl ?_
  refine J_get jf_X3_37 dX3_endY_1 hO_a0 hF_yy ?_
  refine J_aload_n dX3_endY_4 rfl ?_
  refine J_get jf_X3_15 dX3_endY_5 hO_a0 hF_n ?_
  refine J_callSN2 moX6_cell (host := "WalkGrounds") (List.mem_of_getElem? (i := 0) rfl) jw_st_X6_cell dX3_endY_8 (w_X6_cell_x (d - 1) _ yy n ha_Y (WT_rngI (r := (-2147483648, 2147483647)) hW id rfl ha_Y).1 rfl (by omega) (by omega)) (by omega) (Nat.zero_le _) (Nat.zero_le _) (Nat.le_of_ble_eq_true rfl) (fun r8 V8 h8 => ?_)
  obtain ⟨⟨y8, rfl, hf8⟩, hE8⟩ := h8
  have hE8 := hE8.symm
  subst hE8
  have hz8 : jEq y8.toInt (Y (n.toInt).toNat).toInt := by rw [← hf8]; rfl
  clear hf8
  · exact J_ret (r := some (.int _)) dX3_endY_11 ⟨rfl, _, rfl, rfl⟩ (⟨⟨_, rfl, (j_rng _).1, (j_rng _).2, (by (try simp only [hz8.eq, true_and, and_true]) <;> omega)⟩, rfl⟩)
set_option maxRecDepth 100000 in
set_option maxHeartbeats 8000000 in
theorem w_X3_endZ_z {tS : jTS} (d : Nat) (V0 : jH) {ln : Nat} (a0 : Nat) (M : Int32) (g : Int32) (n : Int32) (s : Nat) (xx : Nat) (yy : Nat) (zz : Nat) (S : Nat → Int32) (X : Nat → Int32) (Y : Nat → Int32) (Z : Nat → Int32) (hd : 1 ≤ d) (hW : WT V0) (ha0 : jis V0 (.inr 1) a0) (hf_M : jfI V0 a0 1 0 M) (hf_g : jfI V0 a0 1 5 g) (hf_n : jfI V0 a0 1 6 n) (hr_s : jfR V0 a0 1 1 s) (hr_xx : jfR V0 a0 1 2 xx) (hr_yy : jfR V0 a0 1 3 yy) (hr_zz : jfR V0 a0 1 4 zz) (ha_S : V0 s = some (.inl (6, ln, .inl S))) (ha_X : V0 xx = some (.inl (34, ln + 1, .inl X))) (ha_Y : V0 yy = some (.inl (35, ln + 1, .inl Y))) (ha_Z : V0 zz = some (.inl (36, ln + 1, .inl Z))) (hp0 : M.toInt = (ln : Int)) (hp1 : (ln : Int) ≤ 120) (hp2 : n.toInt ≤ M.toInt) : jTot tS mX3_endZ d [.ref a0] V0 0 0 (fun r V => (fun r _ => ∃ y : Int32, r = some (.int y) ∧ ((-2147483648) ≤ y.toInt) ∧ (y.toInt ≤ 2147483647) ∧ (y.toInt = (Z n.toInt.toNat).toInt)) r V ∧ V = V0) := by
  refine jTot.of_J [some (.ref a0)] moX3_endZ (Nat.le_of_ble_eq_true rfl) rfl ?_
  have he : jeff [] V0 V0 := jeff.refl _ _
  obtain ⟨fs_a0, hO_a0, hK_a0⟩ := WT_obj hW id ha0
  have hF_M := hf_M.get hO_a0
  have hrM : 0 ≤ M.toInt ∧ M.toInt ≤ 120 := jok_rngI hK_a0 rfl hF_M
  have hF_g := hf_g.get hO_a0
  have hrg : (-2147483648) ≤ g.toInt ∧ g.toInt ≤ 2147483647 := jok_rngI hK_a0 rfl hF_g
  have hF_n := hf_n.get hO_a0
  have hrn : 0 ≤ n.toInt ∧ n.toInt ≤ 120 := jok_rngI hK_a0 rfl hF_n
  have hF_s := hr_s.get hO_a0
  obtain ⟨w_s, hFq_s, b_s, hbq_s, hb_s⟩ := hK_a0.2 1 (.inr (some (.inl 6))) rfl
  cases hF_s.symm.trans (hFq_s.trans (congrArg some hbq_s))
  have hF_xx := hr_xx.get hO_a0
  obtain ⟨w_xx, hFq_xx, b_xx, hbq_xx, hb_xx⟩ := hK_a0.2 2 (.inr (some (.inl 34))) rfl
  cases hF_xx.symm.trans (hFq_xx.trans (congrArg some hbq_xx))
  have hF_yy := hr_yy.get hO_a0
  obtain ⟨w_yy, hFq_yy, b_yy, hbq_yy, hb_yy⟩ := hK_a0.2 3 (.inr (some (.inl 35))) rfl
  cases hF_yy.symm.trans (hFq_yy.trans (congrArg some hbq_yy))
  have hF_zz := hr_zz.get hO_a0
  obtain ⟨w_zz, hFq_zz, b_zz, hbq_zz, hb_zz⟩ := hK_a0.2 4 (.inr (some (.inl 36))) rfl
  cases hF_zz.symm.trans (hFq_zz.trans (congrArg some hbq_zz))
  obtain ⟨hN_S, hv_S⟩ := WT_rngI (r := ((-2147483648), 2147483647)) hW id rfl ha_S
  clear hN_S
  obtain ⟨hN_X, hv_X⟩ := WT_rngI (r := ((-2147483648), 2147483647)) hW id rfl ha_X
  clear hN_X
  obtain ⟨hN_Y, hv_Y⟩ := WT_rngI (r := ((-2147483648), 2147483647)) hW id rfl ha_Y
  clear hN_Y
  obtain ⟨hN_Z, hv_Z⟩ := WT_rngI (r := ((-2147483648), 2147483647)) hW id rfl ha_Z
  clear hN_Z
  refine J_aload_n dX3_endZ_0 rfl ?_
  refine J_get jf_X3_40 dX3_endZ_1 hO_a0 hF_zz ?_
  refine J_aload_n dX3_endZ_4 rfl ?_
  refine J_get jf_X3_15 dX3_endZ_5 hO_a0 hF_n ?_
  refine J_callSN2 moX6_cell (host := "WalkGrounds") (List.mem_of_getElem? (i := 0) rfl) jw_st_X6_cell dX3_endZ_8 (w_X6_cell_x (d - 1) _ zz n ha_Z (WT_rngI (r := (-2147483648, 2147483647)) hW id rfl ha_Z).1 rfl (by omega) (by omega)) (by omega) (Nat.zero_le _) (Nat.zero_le _) (Nat.le_of_ble_eq_true rfl) (fun r8 V8 h8 => ?_)
  obtain ⟨⟨y8, rfl, hf8⟩, hE8⟩ := h8
  have hE8 := hE8.symm
  subst hE8
  have hz8 : jEq y8.toInt (Z (n.toInt).toNat).toInt := by rw [← hf8]; rfl
  clear hf8
  · exact J_ret (r := some (.int _)) dX3_endZ_11 ⟨rfl, _, rfl, rfl⟩ (⟨⟨_, rfl, (j_rng _).1, (j_rng _).2, (by (try simp only [hz8.eq, true_and, and_true]) <;> omega)⟩, rfl⟩)
set_option maxRecDepth 100000 in
set_option maxHeartbeats 8000000 in
theorem w_X3_hasCome_z {tS : jTS} (d : Nat) (V0 : jH) {ln : Nat} (a0 : Nat) (x1 : Int32) (x2 : Int32) (x3 : Int32) (M : Int32) (g : Int32) (n : Int32) (s : Nat) (xx : Nat) (yy : Nat) (zz : Nat) (S : Nat → Int32) (X : Nat → Int32) (Y : Nat → Int32) (Z : Nat → Int32) (hd : 1 ≤ d) (hW : WT V0) (ha0 : jis V0 (.inr 1) a0) (hf_M : jfI V0 a0 1 0 M) (hf_g : jfI V0 a0 1 5 g) (hf_n : jfI V0 a0 1 6 n) (hr_s : jfR V0 a0 1 1 s) (hr_xx : jfR V0 a0 1 2 xx) (hr_yy : jfR V0 a0 1 3 yy) (hr_zz : jfR V0 a0 1 4 zz) (ha_S : V0 s = some (.inl (6, ln, .inl S))) (ha_X : V0 xx = some (.inl (34, ln + 1, .inl X))) (ha_Y : V0 yy = some (.inl (35, ln + 1, .inl Y))) (ha_Z : V0 zz = some (.inl (36, ln + 1, .inl Z))) (hp0 : M.toInt = (ln : Int)) (hp1 : (ln : Int) ≤ 120) (hp2 : n.toInt ≤ M.toInt) : jTot tS mX3_hasCome d [.ref a0, .int x1, .int x2, .int x3] V0 0 0 (fun r V => (fun r _ => ∃ y : Int32, r = some (.int y) ∧ (0 ≤ y.toInt) ∧ (y.toInt ≤ 1) ∧ (jIf y 1 (∃ j : Nat, (j : Int) ≤ n.toInt ∧ ((X j).toInt = x1.toInt ∧ (Y j).toInt = x2.toInt ∧ (Z j).toInt = x3.toInt))) ∧ (jIf y 0 (∀ j : Nat, (j : Int) ≤ n.toInt → ¬ ((X j).toInt = x1.toInt ∧ (Y j).toInt = x2.toInt ∧ (Z j).toInt = x3.toInt)))) r V ∧ V = V0) := by
  refine jTot.of_J [some (.ref a0), some (.int x1), some (.int x2), some (.int x3), none] moX3_hasCome (Nat.le_of_ble_eq_true rfl) rfl ?_
  have hrx1 := j_rng x1
  have hrx2 := j_rng x2
  have hrx3 := j_rng x3
  have he : jeff [] V0 V0 := jeff.refl _ _
  obtain ⟨fs_a0, hO_a0, hK_a0⟩ := WT_obj hW id ha0
  have hF_M := hf_M.get hO_a0
  have hrM : 0 ≤ M.toInt ∧ M.toInt ≤ 120 := jok_rngI hK_a0 rfl hF_M
  have hF_g := hf_g.get hO_a0
  have hrg : (-2147483648) ≤ g.toInt ∧ g.toInt ≤ 2147483647 := jok_rngI hK_a0 rfl hF_g
  have hF_n := hf_n.get hO_a0
  have hrn : 0 ≤ n.toInt ∧ n.toInt ≤ 120 := jok_rngI hK_a0 rfl hF_n
  have hF_s := hr_s.get hO_a0
  obtain ⟨w_s, hFq_s, b_s, hbq_s, hb_s⟩ := hK_a0.2 1 (.inr (some (.inl 6))) rfl
  cases hF_s.symm.trans (hFq_s.trans (congrArg some hbq_s))
  have hF_xx := hr_xx.get hO_a0
  obtain ⟨w_xx, hFq_xx, b_xx, hbq_xx, hb_xx⟩ := hK_a0.2 2 (.inr (some (.inl 34))) rfl
  cases hF_xx.symm.trans (hFq_xx.trans (congrArg some hbq_xx))
  have hF_yy := hr_yy.get hO_a0
  obtain ⟨w_yy, hFq_yy, b_yy, hbq_yy, hb_yy⟩ := hK_a0.2 3 (.inr (some (.inl 35))) rfl
  cases hF_yy.symm.trans (hFq_yy.trans (congrArg some hbq_yy))
  have hF_zz := hr_zz.get hO_a0
  obtain ⟨w_zz, hFq_zz, b_zz, hbq_zz, hb_zz⟩ := hK_a0.2 4 (.inr (some (.inl 36))) rfl
  cases hF_zz.symm.trans (hFq_zz.trans (congrArg some hbq_zz))
  obtain ⟨hN_S, hv_S⟩ := WT_rngI (r := ((-2147483648), 2147483647)) hW id rfl ha_S
  clear hN_S
  obtain ⟨hN_X, hv_X⟩ := WT_rngI (r := ((-2147483648), 2147483647)) hW id rfl ha_X
  clear hN_X
  obtain ⟨hN_Y, hv_Y⟩ := WT_rngI (r := ((-2147483648), 2147483647)) hW id rfl ha_Y
  clear hN_Y
  obtain ⟨hN_Z, hv_Z⟩ := WT_rngI (r := ((-2147483648), 2147483647)) hW id rfl ha_Z
  clear hN_Z
  refine J_aload_n dX3_hasCome_0 rfl ?_
  refine J_get jf_X3_15 dX3_hasCome_1 hO_a0 hF_n ?_
  refine J_istore dX3_hasCome_4 rfl (by decide) ?_
  have L6 : ∀ (N : Nat) (i4n6 : Int32), (-1 ≤ i4n6.toInt ∧ i4n6.toInt ≤ n.toInt) → (∀ j : Nat, i4n6.toInt < (j : Int) → (j : Int) ≤ n.toInt → ¬ ((X j).toInt = x1.toInt ∧ (Y j).toInt = x2.toInt ∧ (Z j).toInt = x3.toInt)) → (i4n6.toInt + 2).toNat < N → J tS mX3_hasCome d 6 [some (.ref a0), some (.int x1), some (.int x2), some (.int x3), some (.int i4n6)] [] V0 0 0 (fun r V => (fun r _ => ∃ y : Int32, r = some (.int y) ∧ (0 ≤ y.toInt) ∧ (y.toInt ≤ 1) ∧ (jIf y 1 (∃ j : Nat, (j : Int) ≤ n.toInt ∧ ((X j).toInt = x1.toInt ∧ (Y j).toInt = x2.toInt ∧ (Z j).toInt = x3.toInt))) ∧ (jIf y 0 (∀ j : Nat, (j : Int) ≤ n.toInt → ¬ ((X j).toInt = x1.toInt ∧ (Y j).toInt = x2.toInt ∧ (Z j).toInt = x3.toInt)))) r V ∧ V = V0) := by
    intro N
    induction N with
    | zero => intro i4n6  hi hno hm; exact absurd hm (Nat.not_lt_zero _)
    | succ N ih =>
      intro i4n6  hi hno hm
      have ih6 := ih
      have hri4 := j_rng i4n6
      refine J_iload dX3_hasCome_6 rfl ?_
      refine Jz_if_lt (tgt := 58) jEq.rf dX3_hasCome_8 (by decide) (fun c8 => ?_) (fun c8 => ?_)
      · refine Jz_iconst 0 dX3_hasCome_58 (by decide) (fun y58 he58 => ?_)
        exact J_ret (r := some (.int _)) dX3_hasCome_59 ⟨rfl, _, rfl, (nar_b (by (try simp only [he58.eq, true_and, and_true]) <;> omega) (by (try simp only [he58.eq, true_and, and_true]) <;> omega))⟩ (⟨⟨_, rfl, (by (try simp only [he58.eq, true_and, and_true]) <;> omega), (by (try simp only [he58.eq, true_and, and_true]) <;> omega), (fun h => by rw [he58.eq] at h; omega), (fun _ j hj => hno j (by omega) hj)⟩, rfl⟩)
      · refine J_aload_n dX3_hasCome_11 rfl ?_
        refine J_get jf_X3_34 dX3_hasCome_12 hO_a0 hF_xx ?_
        refine J_iload dX3_hasCome_15 rfl ?_
        refine J_callSN2 moX6_cell (host := "WalkGrounds") (List.mem_of_getElem? (i := 0) rfl) jw_st_X6_cell dX3_hasCome_17 (w_X6_cell_x (d - 1) _ xx i4n6 ha_X (WT_rngI (r := (-2147483648, 2147483647)) hW id rfl ha_X).1 rfl (by omega) (by omega)) (by omega) (Nat.zero_le _) (Nat.zero_le _) (Nat.le_of_ble_eq_true rfl) (fun r17 V17 h17 => ?_)
        obtain ⟨⟨y17, rfl, hf17⟩, hE17⟩ := h17
        have hE17 := hE17.symm
        subst hE17
        have hz17 : jEq y17.toInt (X (i4n6.toInt).toNat).toInt := by rw [← hf17]; rfl
        clear hf17
        · refine J_iload_n dX3_hasCome_20 rfl ?_
          refine Jz_icmp_ne (tgt := 52) hz17 jEq.rf dX3_hasCome_21 (by decide) (fun c21 => ?_) (fun c21 => ?_)
          · refine Jz_iinc (-1) dX3_hasCome_52 rfl rfl (by decide) jEq.rf (by decide) (by omega) (by omega) (fun y52 he52 => ?_)
            refine J_goto (tgt := 6) dX3_hasCome_55 (by decide) ?_
            refine J.mask [true, true, true, true, true] ?_
            exact ih6  y52  (by (try simp only [he52.eq, true_and, and_true]) <;> omega) (fun j h1 h2 h3 => by
   rw [he52.eq] at h1
   by_cases h9 : (j : Int) = i4n6.toInt
   · have e : j = i4n6.toInt.toNat := by omega
     subst e
     omega
   · exact hno j (by omega) h2 h3) (by (try simp only [he52.eq, true_and, and_true]) <;> omega)
          · refine J_aload_n dX3_hasCome_24 rfl ?_
            refine J_get jf_X3_37 dX3_hasCome_25 hO_a0 hF_yy ?_
            refine J_iload dX3_hasCome_28 rfl ?_
            refine J_callSN2 moX6_cell (host := "WalkGrounds") (List.mem_of_getElem? (i := 0) rfl) jw_st_X6_cell dX3_hasCome_30 (w_X6_cell_x (d - 1) _ yy i4n6 ha_Y (WT_rngI (r := (-2147483648, 2147483647)) hW id rfl ha_Y).1 rfl (by omega) (by omega)) (by omega) (Nat.zero_le _) (Nat.zero_le _) (Nat.le_of_ble_eq_true rfl) (fun r30 V30 h30 => ?_)
            obtain ⟨⟨y30, rfl, hf30⟩, hE30⟩ := h30
            have hE30 := hE30.symm
            subst hE30
            have hz30 : jEq y30.toInt (Y (i4n6.toInt).toNat).toInt := by rw [← hf30]; rfl
            clear hf30
            · refine J_iload_n dX3_hasCome_33 rfl ?_
              refine Jz_icmp_ne (tgt := 52) hz30 jEq.rf dX3_hasCome_34 (by decide) (fun c34 => ?_) (fun c34 => ?_)
              · refine Jz_iinc (-1) dX3_hasCome_52 rfl rfl (by decide) jEq.rf (by decide) (by omega) (by omega) (fun y52 he52 => ?_)
                refine J_goto (tgt := 6) dX3_hasCome_55 (by decide) ?_
                refine J.mask [true, true, true, true, true] ?_
                exact ih6  y52  (by (try simp only [he52.eq, true_and, and_true]) <;> omega) (fun j h1 h2 h3 => by
   rw [he52.eq] at h1
   by_cases h9 : (j : Int) = i4n6.toInt
   · have e : j = i4n6.toInt.toNat := by omega
     subst e
     omega
   · exact hno j (by omega) h2 h3) (by (try simp only [he52.eq, true_and, and_true]) <;> omega)
              · refine J_aload_n dX3_hasCome_37 rfl ?_
                refine J_get jf_X3_40 dX3_hasCome_38 hO_a0 hF_zz ?_
                refine J_iload dX3_hasCome_41 rfl ?_
                refine J_callSN2 moX6_cell (host := "WalkGrounds") (List.mem_of_getElem? (i := 0) rfl) jw_st_X6_cell dX3_hasCome_43 (w_X6_cell_x (d - 1) _ zz i4n6 ha_Z (WT_rngI (r := (-2147483648, 2147483647)) hW id rfl ha_Z).1 rfl (by omega) (by omega)) (by omega) (Nat.zero_le _) (Nat.zero_le _) (Nat.le_of_ble_eq_true rfl) (fun r43 V43 h43 => ?_)
                obtain ⟨⟨y43, rfl, hf43⟩, hE43⟩ := h43
                have hE43 := hE43.symm
                subst hE43
                have hz43 : jEq y43.toInt (Z (i4n6.toInt).toNat).toInt := by rw [← hf43]; rfl
                clear hf43
                · refine J_iload_n dX3_hasCome_46 rfl ?_
                  refine Jz_icmp_ne (tgt := 52) hz43 jEq.rf dX3_hasCome_47 (by decide) (fun c47 => ?_) (fun c47 => ?_)
                  · refine Jz_iinc (-1) dX3_hasCome_52 rfl rfl (by decide) jEq.rf (by decide) (by omega) (by omega) (fun y52 he52 => ?_)
                    refine J_goto (tgt := 6) dX3_hasCome_55 (by decide) ?_
                    refine J.mask [true, true, true, true, true] ?_
                    exact ih6  y52  (by (try simp only [he52.eq, true_and, and_true]) <;> omega) (fun j h1 h2 h3 => by
   rw [he52.eq] at h1
   by_cases h9 : (j : Int) = i4n6.toInt
   · have e : j = i4n6.toInt.toNat := by omega
     subst e
     omega
   · exact hno j (by omega) h2 h3) (by (try simp only [he52.eq, true_and, and_true]) <;> omega)
                  · refine Jz_iconst 1 dX3_hasCome_50 (by decide) (fun y50 he50 => ?_)
                    exact J_ret (r := some (.int _)) dX3_hasCome_51 ⟨rfl, _, rfl, (nar_b (by (try simp only [he50.eq, true_and, and_true]) <;> omega) (by (try simp only [he50.eq, true_and, and_true]) <;> omega))⟩ (⟨⟨_, rfl, (by (try simp only [he50.eq, true_and, and_true]) <;> omega), (by (try simp only [he50.eq, true_and, and_true]) <;> omega), (fun _ => ⟨i4n6.toInt.toNat, by omega, c21, c34, c47⟩), (fun h => by rw [he50.eq] at h; omega)⟩, rfl⟩)
  refine J.mask [true, true, true, true, true] ?_
  exact L6 _  n    (by omega) (by omega) (Nat.lt_succ_self _)
set_option maxRecDepth 100000 in
set_option maxHeartbeats 8000000 in
theorem w_X3_leads_z {tS : jTS} (d : Nat) (V0 : jH) {ln : Nat} (a0 : Nat) (x1 : Int32) (M : Int32) (g : Int32) (n : Int32) (s : Nat) (xx : Nat) (yy : Nat) (zz : Nat) (S : Nat → Int32) (X : Nat → Int32) (Y : Nat → Int32) (Z : Nat → Int32) (hd : 2 ≤ d) (hW : WT V0) (ha0 : jis V0 (.inr 1) a0) (hf_M : jfI V0 a0 1 0 M) (hf_g : jfI V0 a0 1 5 g) (hf_n : jfI V0 a0 1 6 n) (hr_s : jfR V0 a0 1 1 s) (hr_xx : jfR V0 a0 1 2 xx) (hr_yy : jfR V0 a0 1 3 yy) (hr_zz : jfR V0 a0 1 4 zz) (ha_S : V0 s = some (.inl (6, ln, .inl S))) (ha_X : V0 xx = some (.inl (34, ln + 1, .inl X))) (ha_Y : V0 yy = some (.inl (35, ln + 1, .inl Y))) (ha_Z : V0 zz = some (.inl (36, ln + 1, .inl Z))) (hp0 : M.toInt = (ln : Int)) (hp1 : (ln : Int) ≤ 120) (hp2 : n.toInt ≤ M.toInt) (hp3 : 0 ≤ g.toInt) (hp4 : g.toInt ≤ 3) (hp5 : 0 ≤ x1.toInt) (hp6 : x1.toInt < jdir g.toInt) (hp7 : -120 ≤ (X n.toInt.toNat).toInt) (hp8 : (X n.toInt.toNat).toInt ≤ 120) (hp9 : -120 ≤ (Y n.toInt.toNat).toInt) (hp10 : (Y n.toInt.toNat).toInt ≤ 120) (hp11 : -120 ≤ (Z n.toInt.toNat).toInt) (hp12 : (Z n.toInt.toNat).toInt ≤ 120) : jTot tS mX3_leads d [.ref a0, .int x1] V0 0 0 (fun r V => (fun r _ => ∃ y : Int32, r = some (.int y) ∧ (0 ≤ y.toInt) ∧ (y.toInt ≤ 1) ∧ (jIf y 1 (∀ j : Nat, (j : Int) ≤ n.toInt → ¬ ((X j).toInt = (X n.toInt.toNat).toInt + jsx g.toInt x1.toInt ∧ (Y j).toInt = (Y n.toInt.toNat).toInt + jsy g.toInt x1.toInt ((X n.toInt.toNat).toInt + (Y n.toInt.toNat).toInt) ∧ (Z j).toInt = (Z n.toInt.toNat).toInt + jsz g.toInt x1.toInt))) ∧ (jIf y 0 (∃ j : Nat, (j : Int) ≤ n.toInt ∧ ((X j).toInt = (X n.toInt.toNat).toInt + jsx g.toInt x1.toInt ∧ (Y j).toInt = (Y n.toInt.toNat).toInt + jsy g.toInt x1.toInt ((X n.toInt.toNat).toInt + (Y n.toInt.toNat).toInt) ∧ (Z j).toInt = (Z n.toInt.toNat).toInt + jsz g.toInt x1.toInt)))) r V ∧ V = V0) := by
  refine jTot.of_J [some (.ref a0), some (.int x1)] moX3_leads (Nat.le_of_ble_eq_true rfl) rfl ?_
  have hrx1 := j_rng x1
  have he : jeff [] V0 V0 := jeff.refl _ _
  obtain ⟨fs_a0, hO_a0, hK_a0⟩ := WT_obj hW id ha0
  have hF_M := hf_M.get hO_a0
  have hrM : 0 ≤ M.toInt ∧ M.toInt ≤ 120 := jok_rngI hK_a0 rfl hF_M
  have hF_g := hf_g.get hO_a0
  have hrg : (-2147483648) ≤ g.toInt ∧ g.toInt ≤ 2147483647 := jok_rngI hK_a0 rfl hF_g
  have hF_n := hf_n.get hO_a0
  have hrn : 0 ≤ n.toInt ∧ n.toInt ≤ 120 := jok_rngI hK_a0 rfl hF_n
  have hF_s := hr_s.get hO_a0
  obtain ⟨w_s, hFq_s, b_s, hbq_s, hb_s⟩ := hK_a0.2 1 (.inr (some (.inl 6))) rfl
  cases hF_s.symm.trans (hFq_s.trans (congrArg some hbq_s))
  have hF_xx := hr_xx.get hO_a0
  obtain ⟨w_xx, hFq_xx, b_xx, hbq_xx, hb_xx⟩ := hK_a0.2 2 (.inr (some (.inl 34))) rfl
  cases hF_xx.symm.trans (hFq_xx.trans (congrArg some hbq_xx))
  have hF_yy := hr_yy.get hO_a0
  obtain ⟨w_yy, hFq_yy, b_yy, hbq_yy, hb_yy⟩ := hK_a0.2 3 (.inr (some (.inl 35))) rfl
  cases hF_yy.symm.trans (hFq_yy.trans (congrArg some hbq_yy))
  have hF_zz := hr_zz.get hO_a0
  obtain ⟨w_zz, hFq_zz, b_zz, hbq_zz, hb_zz⟩ := hK_a0.2 4 (.inr (some (.inl 36))) rfl
  cases hF_zz.symm.trans (hFq_zz.trans (congrArg some hbq_zz))
  obtain ⟨hN_S, hv_S⟩ := WT_rngI (r := ((-2147483648), 2147483647)) hW id rfl ha_S
  clear hN_S
  obtain ⟨hN_X, hv_X⟩ := WT_rngI (r := ((-2147483648), 2147483647)) hW id rfl ha_X
  clear hN_X
  obtain ⟨hN_Y, hv_Y⟩ := WT_rngI (r := ((-2147483648), 2147483647)) hW id rfl ha_Y
  clear hN_Y
  obtain ⟨hN_Z, hv_Z⟩ := WT_rngI (r := ((-2147483648), 2147483647)) hW id rfl ha_Z
  clear hN_Z
  have hjd := jdir_cases g.toInt
  have hbx := jsx_b g.toInt x1.toInt
  have hby := jsy_b g.toInt x1.toInt ((X n.toInt.toNat).toInt + (Y n.toInt.toNat).toInt)
  have hbz := jsz_b g.toInt x1.toInt
  refine J_aload_n dX3_leads_0 rfl ?_
  refine J_aload_n dX3_leads_1 rfl ?_
  refine Jw_callV0 (q9 := (RX3, TX3, 7)) moX3_endX jw_ml_X3_47 jw_im_X3_endX jw_se_X3_endX ha0 rfl rfl dX3_leads_2 (w_X3_endX_z (d - 1) _ a0 M g n s xx yy zz S X Y Z (by omega) hW  ha0 ⟨_, hO_a0, hF_M⟩ ⟨_, hO_a0, hF_g⟩ ⟨_, hO_a0, hF_n⟩ ⟨_, hO_a0, hF_s⟩ ⟨_, hO_a0, hF_xx⟩ ⟨_, hO_a0, hF_yy⟩ ⟨_, hO_a0, hF_zz⟩ ha_S ha_X ha_Y ha_Z (by omega) (by omega) (by omega)) (by omega) (Nat.zero_le _) (Nat.zero_le _) (Nat.le_of_ble_eq_true rfl) (fun r2 V2 h2 => ?_)
  obtain ⟨⟨y2, rfl, hl2, hh2, hP2_0⟩, hE2⟩ := h2
  have hE2 := hE2.symm
  subst hE2
  clear hl2 hh2
  have hz2 : jEq y2.toInt ((X (n.toInt).toNat).toInt) := hP2_0
  clear hP2_0
  refine J_aload_n dX3_leads_5 rfl ?_
  refine J_get jf_X3_9 dX3_leads_6 hO_a0 hF_g ?_
  refine J_iload_n dX3_leads_9 rfl ?_
  refine J_callS2 moX0_shiftX jw_ml_X3_51 jw_st_X0_shiftX dX3_leads_10 (w_X0_shiftX_z (d - 1) _ g x1 (by omega)   (by omega) (by omega) (by omega) (by omega)) (by omega) (Nat.zero_le _) (Nat.zero_le _) (Nat.le_of_ble_eq_true rfl) (fun r10 V10 h10 => ?_)
  obtain ⟨⟨y10, rfl, hl10, hh10, hP10_0⟩, hE10⟩ := h10
  have hE10 := hE10.symm
  subst hE10
  clear hl10 hh10
  have hz10 : jEq y10.toInt (jsx (g.toInt) (x1.toInt)) := hP10_0
  clear hP10_0
  refine Jz_iadd hz2 hz10 dX3_leads_13 (by omega) (by omega) (fun y13 he13 => ?_)
  refine J_aload_n dX3_leads_14 rfl ?_
  refine Jw_callV0 (q9 := (RX3, TX3, 7)) moX3_endY jw_ml_X3_56 jw_im_X3_endY jw_se_X3_endY ha0 rfl rfl dX3_leads_15 (w_X3_endY_z (d - 1) _ a0 M g n s xx yy zz S X Y Z (by omega) hW  ha0 ⟨_, hO_a0, hF_M⟩ ⟨_, hO_a0, hF_g⟩ ⟨_, hO_a0, hF_n⟩ ⟨_, hO_a0, hF_s⟩ ⟨_, hO_a0, hF_xx⟩ ⟨_, hO_a0, hF_yy⟩ ⟨_, hO_a0, hF_zz⟩ ha_S ha_X ha_Y ha_Z (by omega) (by omega) (by omega)) (by omega) (Nat.zero_le _) (Nat.zero_le _) (Nat.le_of_ble_eq_true rfl) (fun r15 V15 h15 => ?_)
  obtain ⟨⟨y15, rfl, hl15, hh15, hP15_0⟩, hE15⟩ := h15
  have hE15 := hE15.symm
  subst hE15
  clear hl15 hh15
  have hz15 : jEq y15.toInt ((Y (n.toInt).toNat).toInt) := hP15_0
  clear hP15_0
  refine J_aload_n dX3_leads_18 rfl ?_
  refine J_get jf_X3_9 dX3_leads_19 hO_a0 hF_g ?_
  refine J_iload_n dX3_leads_22 rfl ?_
  refine J_aload_n dX3_leads_23 rfl ?_
  refine Jw_callV0 (q9 := (RX3, TX3, 7)) moX3_endX jw_ml_X3_47 jw_im_X3_endX jw_se_X3_endX ha0 rfl rfl dX3_leads_24 (w_X3_endX_z (d - 1) _ a0 M g n s xx yy zz S X Y Z (by omega) hW  ha0 ⟨_, hO_a0, hF_M⟩ ⟨_, hO_a0, hF_g⟩ ⟨_, hO_a0, hF_n⟩ ⟨_, hO_a0, hF_s⟩ ⟨_, hO_a0, hF_xx⟩ ⟨_, hO_a0, hF_yy⟩ ⟨_, hO_a0, hF_zz⟩ ha_S ha_X ha_Y ha_Z (by omega) (by omega) (by omega)) (by omega) (Nat.zero_le _) (Nat.zero_le _) (Nat.le_of_ble_eq_true rfl) (fun r24 V24 h24 => ?_)
  obtain ⟨⟨y24, rfl, hl24, hh24, hP24_0⟩, hE24⟩ := h24
  have hE24 := hE24.symm
  subst hE24
  clear hl24 hh24
  have hz24 : jEq y24.toInt ((X (n.toInt).toNat).toInt) := hP24_0
  clear hP24_0
  refine J_aload_n dX3_leads_27 rfl ?_
  refine Jw_callV0 (q9 := (RX3, TX3, 7)) moX3_endY jw_ml_X3_56 jw_im_X3_endY jw_se_X3_endY ha0 rfl rfl dX3_leads_28 (w_X3_endY_z (d - 1) _ a0 M g n s xx yy zz S X Y Z (by omega) hW  ha0 ⟨_, hO_a0, hF_M⟩ ⟨_, hO_a0, hF_g⟩ ⟨_, hO_a0, hF_n⟩ ⟨_, hO_a0, hF_s⟩ ⟨_, hO_a0, hF_xx⟩ ⟨_, hO_a0, hF_yy⟩ ⟨_, hO_a0, hF_zz⟩ ha_S ha_X ha_Y ha_Z (by omega) (by omega) (by omega)) (by omega) (Nat.zero_le _) (Nat.zero_le _) (Nat.le_of_ble_eq_true rfl) (fun r28 V28 h28 => ?_)
  obtain ⟨⟨y28, rfl, hl28, hh28, hP28_0⟩, hE28⟩ := h28
  have hE28 := hE28.symm
  subst hE28
  clear hl28 hh28
  have hz28 : jEq y28.toInt ((Y (n.toInt).toNat).toInt) := hP28_0
  clear hP28_0
  refine J_callS4 moX0_shiftY jw_ml_X3_59 jw_st_X0_shiftY dX3_leads_31 (w_X0_shiftY_z (d - 1) _ g x1 y24 y28 (by omega)   (by omega) (by omega) (by omega) (by omega) (by (try simp only [hz24.eq, true_and, and_true]) <;> omega) (by (try simp only [hz24.eq, true_and, and_true]) <;> omega) (by (try simp only [hz28.eq, true_and, and_true]) <;> omega) (by (try simp only [hz28.eq, true_and, and_true]) <;> omega)) (by omega) (Nat.zero_le _) (Nat.zero_le _) (Nat.le_of_ble_eq_true rfl) (fun r31 V31 h31 => ?_)
  obtain ⟨⟨y31, rfl, hl31, hh31, hP31_0⟩, hE31⟩ := h31
  have hE31 := hE31.symm
  subst hE31
  clear hl31 hh31
  try simp only [hz24.eq, hz28.eq] at hP31_0
  have hz31 : jEq y31.toInt (jsy (g.toInt) (x1.toInt) (((X (n.toInt).toNat).toInt) + ((Y (n.toInt).toNat).toInt))) := hP31_0
  clear hP31_0
  refine Jz_iadd hz15 hz31 dX3_leads_34 (by omega) (by omega) (fun y34 he34 => ?_)
  refine J_aload_n dX3_leads_35 rfl ?_
  refine Jw_callV0 (q9 := (RX3, TX3, 7)) moX3_endZ jw_ml_X3_63 jw_im_X3_endZ jw_se_X3_endZ ha0 rfl rfl dX3_leads_36 (w_X3_endZ_z (d - 1) _ a0 M g n s xx yy zz S X Y Z (by omega) hW  ha0 ⟨_, hO_a0, hF_M⟩ ⟨_, hO_a0, hF_g⟩ ⟨_, hO_a0, hF_n⟩ ⟨_, hO_a0, hF_s⟩ ⟨_, hO_a0, hF_xx⟩ ⟨_, hO_a0, hF_yy⟩ ⟨_, hO_a0, hF_zz⟩ ha_S ha_X ha_Y ha_Z (by omega) (by omega) (by omega)) (by omega) (Nat.zero_le _) (Nat.zero_le _) (Nat.le_of_ble_eq_true rfl) (fun r36 V36 h36 => ?_)
  obtain ⟨⟨y36, rfl, hl36, hh36, hP36_0⟩, hE36⟩ := h36
  have hE36 := hE36.symm
  subst hE36
  clear hl36 hh36
  have hz36 : jEq y36.toInt ((Z (n.toInt).toNat).toInt) := hP36_0
  clear hP36_0
  refine J_aload_n dX3_leads_39 rfl ?_
  refine J_get jf_X3_9 dX3_leads_40 hO_a0 hF_g ?_
  refine J_iload_n dX3_leads_43 rfl ?_
  refine J_callS2 moX0_shiftZ jw_ml_X3_66 jw_st_X0_shiftZ dX3_leads_44 (w_X0_shiftZ_z (d - 1) _ g x1 (by omega)   (by omega) (by omega) (by omega) (by omega)) (by omega) (Nat.zero_le _) (Nat.zero_le _) (Nat.le_of_ble_eq_true rfl) (fun r44 V44 h44 => ?_)
  obtain ⟨⟨y44, rfl, hl44, hh44, hP44_0⟩, hE44⟩ := h44
  have hE44 := hE44.symm
  subst hE44
  clear hl44 hh44
  have hz44 : jEq y44.toInt (jsz (g.toInt) (x1.toInt)) := hP44_0
  clear hP44_0
  refine Jz_iadd hz36 hz44 dX3_leads_47 (by omega) (by omega) (fun y47 he47 => ?_)
  refine Jw_callV3 (q9 := (RX3, TX3, 7)) moX3_hasCome jw_ml_X3_69 jw_im_X3_hasCome jw_se_X3_hasCome ha0 rfl rfl dX3_leads_48 (w_X3_hasCome_z (d - 1) _ a0 y13 y34 y47 M g n s xx yy zz S X Y Z (by omega) hW  ha0 ⟨_, hO_a0, hF_M⟩ ⟨_, hO_a0, hF_g⟩ ⟨_, hO_a0, hF_n⟩ ⟨_, hO_a0, hF_s⟩ ⟨_, hO_a0, hF_xx⟩ ⟨_, hO_a0, hF_yy⟩ ⟨_, hO_a0, hF_zz⟩ ha_S ha_X ha_Y ha_Z (by omega) (by omega) (by omega)) (by omega) (Nat.zero_le _) (Nat.zero_le _) (Nat.le_of_ble_eq_true rfl) (fun r48 V48 h48 => ?_)
  obtain ⟨⟨y48, rfl, hl48, hh48, hI48_0, hI48_1⟩, hE48⟩ := h48
  have hE48 := hE48.symm
  subst hE48
  refine Jz_if_ne (tgt := 58) jEq.rf dX3_leads_51 (by decide) (fun c51 => ?_) (fun c51 => ?_)
  · have q51_0 := hI48_0.of (by omega)
    try simp only [he13.eq, he34.eq, he47.eq] at q51_0
    refine Jz_iconst 0 dX3_leads_58 (by decide) (fun y58 he58 => ?_)
    exact J_ret (r := some (.int _)) dX3_leads_59 ⟨rfl, _, rfl, (nar_b (by (try simp only [he58.eq, true_and, and_true]) <;> omega) (by (try simp only [he58.eq, true_and, and_true]) <;> omega))⟩ (⟨⟨_, rfl, (by (try simp only [he58.eq, true_and, and_true]) <;> omega), (by (try simp only [he58.eq, true_and, and_true]) <;> omega), (fun h => by rw [he58.eq] at h; omega), (fun _ => by have q := hI48_0.of (by omega); simp only [he13.eq, he34.eq, he47.eq] at q; exact q)⟩, rfl⟩)
  · have q51_1 := hI48_1.of (by omega)
    try simp only [he13.eq, he34.eq, he47.eq] at q51_1
    refine Jz_iconst 1 dX3_leads_54 (by decide) (fun y54 he54 => ?_)
    refine J_goto (tgt := 59) dX3_leads_55 (by decide) ?_
    exact J_ret (r := some (.int _)) dX3_leads_59 ⟨rfl, _, rfl, (nar_b (by (try simp only [he54.eq, true_and, and_true]) <;> omega) (by (try simp only [he54.eq, true_and, and_true]) <;> omega))⟩ (⟨⟨_, rfl, (by (try simp only [he54.eq, true_and, and_true]) <;> omega), (by (try simp only [he54.eq, true_and, and_true]) <;> omega), (fun _ => by have q := hI48_1.of (by omega); simp only [he13.eq, he34.eq, he47.eq] at q; exact q), (fun h => by rw [he54.eq] at h; omega)⟩, rfl⟩)
set_option maxRecDepth 100000 in
set_option maxHeartbeats 8000000 in
theorem w_X3_lay_no {tS : jTS} (d : Nat) (V0 : jH) {ln : Nat} (a0 : Nat) (x1 : Int32) (M : Int32) (g : Int32) (n : Int32) (s : Nat) (xx : Nat) (yy : Nat) (zz : Nat) (S : Nat → Int32) (X : Nat → Int32) (Y : Nat → Int32) (Z : Nat → Int32) (hd : 3 ≤ d) (hW : WT V0) (ha0 : jis V0 (.inr 1) a0) (hf_M : jfI V0 a0 1 0 M) (hf_g : jfI V0 a0 1 5 g) (hf_n : jfI V0 a0 1 6 n) (hr_s : jfR V0 a0 1 1 s) (hr_xx : jfR V0 a0 1 2 xx) (hr_yy : jfR V0 a0 1 3 yy) (hr_zz : jfR V0 a0 1 4 zz) (ha_S : V0 s = some (.inl (6, ln, .inl S))) (ha_X : V0 xx = some (.inl (34, ln + 1, .inl X))) (ha_Y : V0 yy = some (.inl (35, ln + 1, .inl Y))) (ha_Z : V0 zz = some (.inl (36, ln + 1, .inl Z))) (hp0 : M.toInt = (ln : Int)) (hp1 : (ln : Int) ≤ 120) (hp2 : n.toInt ≤ M.toInt) (hp3 : 0 ≤ g.toInt) (hp4 : g.toInt ≤ 3) (hp5 : 0 ≤ x1.toInt) (hp6 : x1.toInt < jdir g.toInt) (hp7 : -120 ≤ (X n.toInt.toNat).toInt) (hp8 : (X n.toInt.toNat).toInt ≤ 120) (hp9 : -120 ≤ (Y n.toInt.toNat).toInt) (hp10 : (Y n.toInt.toNat).toInt ≤ 120) (hp11 : -120 ≤ (Z n.toInt.toNat).toInt) (hp12 : (Z n.toInt.toNat).toInt ≤ 120) (hp13 : M.toInt ≤ n.toInt ∨ ∃ j : Nat, (j : Int) ≤ n.toInt ∧ ((X j).toInt = (X n.toInt.toNat).toInt + jsx g.toInt x1.toInt ∧ (Y j).toInt = (Y n.toInt.toNat).toInt + jsy g.toInt x1.toInt ((X n.toInt.toNat).toInt + (Y n.toInt.toNat).toInt) ∧ (Z j).toInt = (Z n.toInt.toNat).toInt + jsz g.toInt x1.toInt)) : jTot tS mX3_lay d [.ref a0, .int x1] V0 0 0 (fun r V => (fun r _ => ∃ y : Int32, r = some (.int y) ∧ (0 ≤ y.toInt) ∧ (y.toInt ≤ 1) ∧ (y.toInt = 0)) r V ∧ V = V0) := by
  refine jTot.of_J [some (.ref a0), some (.int x1), none, none, none] moX3_lay (Nat.le_of_ble_eq_true rfl) rfl ?_
  have hrx1 := j_rng x1
  have he : jeff [] V0 V0 := jeff.refl _ _
  obtain ⟨fs_a0, hO_a0, hK_a0⟩ := WT_obj hW id ha0
  have hF_M := hf_M.get hO_a0
  have hrM : 0 ≤ M.toInt ∧ M.toInt ≤ 120 := jok_rngI hK_a0 rfl hF_M
  have hF_g := hf_g.get hO_a0
  have hrg : (-2147483648) ≤ g.toInt ∧ g.toInt ≤ 2147483647 := jok_rngI hK_a0 rfl hF_g
  have hF_n := hf_n.get hO_a0
  have hrn : 0 ≤ n.toInt ∧ n.toInt ≤ 120 := jok_rngI hK_a0 rfl hF_n
  have hF_s := hr_s.get hO_a0
  obtain ⟨w_s, hFq_s, b_s, hbq_s, hb_s⟩ := hK_a0.2 1 (.inr (some (.inl 6))) rfl
  cases hF_s.symm.trans (hFq_s.trans (congrArg some hbq_s))
  have hF_xx := hr_xx.get hO_a0
  obtain ⟨w_xx, hFq_xx, b_xx, hbq_xx, hb_xx⟩ := hK_a0.2 2 (.inr (some (.inl 34))) rfl
  cases hF_xx.symm.trans (hFq_xx.trans (congrArg some hbq_xx))
  have hF_yy := hr_yy.get hO_a0
  obtain ⟨w_yy, hFq_yy, b_yy, hbq_yy, hb_yy⟩ := hK_a0.2 3 (.inr (some (.inl 35))) rfl
  cases hF_yy.symm.trans (hFq_yy.trans (congrArg some hbq_yy))
  have hF_zz := hr_zz.get hO_a0
  obtain ⟨w_zz, hFq_zz, b_zz, hbq_zz, hb_zz⟩ := hK_a0.2 4 (.inr (some (.inl 36))) rfl
  cases hF_zz.symm.trans (hFq_zz.trans (congrArg some hbq_zz))
  obtain ⟨hN_S, hv_S⟩ := WT_rngI (r := ((-2147483648), 2147483647)) hW id rfl ha_S
  clear hN_S
  obtain ⟨hN_X, hv_X⟩ := WT_rngI (r := ((-2147483648), 2147483647)) hW id rfl ha_X
  clear hN_X
  obtain ⟨hN_Y, hv_Y⟩ := WT_rngI (r := ((-2147483648), 2147483647)) hW id rfl ha_Y
  clear hN_Y
  obtain ⟨hN_Z, hv_Z⟩ := WT_rngI (r := ((-2147483648), 2147483647)) hW id rfl ha_Z
  clear hN_Z
  have hjd := jdir_cases g.toInt
  have hbx := jsx_b g.toInt x1.toInt
  have hby := jsy_b g.toInt x1.toInt ((X n.toInt.toNat).toInt + (Y n.toInt.toNat).toInt)
  have hbz := jsz_b g.toInt x1.toInt
  refine J_aload_n dX3_lay_0 rfl ?_
  refine J_get jf_X3_15 dX3_lay_1 hO_a0 hF_n ?_
  refine J_aload_n dX3_lay_4 rfl ?_
  refine J_get jf_X3_27 dX3_lay_5 hO_a0 hF_M ?_
  refine Jz_icmp_ge (tgt := 19) jEq.rf jEq.rf dX3_lay_8 (by decide) (fun c8 => ?_) (fun c8 => ?_)
  · refine Jz_iconst 0 dX3_lay_19 (by decide) (fun y19 he19 => ?_)
    exact J_ret (r := some (.int _)) dX3_lay_20 ⟨rfl, _, rfl, (nar_b (by (try simp only [he19.eq, true_and, and_true]) <;> omega) (by (try simp only [he19.eq, true_and, and_true]) <;> omega))⟩ (⟨⟨_, rfl, (by (try simp only [he19.eq, true_and, and_true]) <;> omega), (by (try simp only [he19.eq, true_and, and_true]) <;> omega), (by (try simp only [he19.eq, true_and, and_true]) <;> omega)⟩, rfl⟩)
  · refine J_aload_n dX3_lay_11 rfl ?_
    refine J_iload_n dX3_lay_12 rfl ?_
    refine Jw_callV1 (q9 := (RX3, TX3, 7)) moX3_leads jw_ml_X3_73 jw_im_X3_leads jw_se_X3_leads ha0 rfl rfl dX3_lay_13 (w_X3_leads_z (d - 1) _ a0 x1 M g n s xx yy zz S X Y Z (by omega) hW  ha0 ⟨_, hO_a0, hF_M⟩ ⟨_, hO_a0, hF_g⟩ ⟨_, hO_a0, hF_n⟩ ⟨_, hO_a0, hF_s⟩ ⟨_, hO_a0, hF_xx⟩ ⟨_, hO_a0, hF_yy⟩ ⟨_, hO_a0, hF_zz⟩ ha_S ha_X ha_Y ha_Z (by omega) (by omega) (by omega) (by omega) (by omega) (by omega) (by omega) (by omega) (by omega) (by omega) (by omega) (by omega) (by omega)) (by omega) (Nat.zero_le _) (Nat.zero_le _) (Nat.le_of_ble_eq_true rfl) (fun r13 V13 h13 => ?_)
    obtain ⟨⟨y13, rfl, hl13, hh13, hI13_0, hI13_1⟩, hE13⟩ := h13
    have hE13 := hE13.symm
    subst hE13
    refine Jz_if_ne (tgt := 21) jEq.rf dX3_lay_16 (by decide) (fun c16 => ?_) (fun c16 => ?_)
    · have q16_0 := hI13_0.of (by omega)
      exact False.elim (hp13.elim (fun h => by omega) (fun ⟨j, h1, h2⟩ => hI13_0.of (by omega) j h1 h2))
    · have q16_1 := hI13_1.of (by omega)
      refine Jz_iconst 0 dX3_lay_19 (by decide) (fun y19 he19 => ?_)
      exact J_ret (r := some (.int _)) dX3_lay_20 ⟨rfl, _, rfl, (nar_b (by (try simp only [he19.eq, true_and, and_true]) <;> omega) (by (try simp only [he19.eq, true_and, and_true]) <;> omega))⟩ (⟨⟨_, rfl, (by (try simp only [he19.eq, true_and, and_true]) <;> omega), (by (try simp only [he19.eq, true_and, and_true]) <;> omega), (by (try simp only [he19.eq, true_and, and_true]) <;> omega)⟩, rfl⟩)
set_option maxRecDepth 100000 in
set_option maxHeartbeats 8000000 in
theorem w_X3_lay_yes {tS : jTS} (d : Nat) (V0 : jH) {ln : Nat} (a0 : Nat) (x1 : Int32) (M : Int32) (g : Int32) (n : Int32) (s : Nat) (xx : Nat) (yy : Nat) (zz : Nat) (S : Nat → Int32) (X : Nat → Int32) (Y : Nat → Int32) (Z : Nat → Int32) (hd : 3 ≤ d) (hW : WT V0) (ha0 : jis V0 (.inr 1) a0) (hf_M : jfI V0 a0 1 0 M) (hf_g : jfI V0 a0 1 5 g) (hf_n : jfI V0 a0 1 6 n) (hr_s : jfR V0 a0 1 1 s) (hr_xx : jfR V0 a0 1 2 xx) (hr_yy : jfR V0 a0 1 3 yy) (hr_zz : jfR V0 a0 1 4 zz) (ha_S : V0 s = some (.inl (6, ln, .inl S))) (ha_X : V0 xx = some (.inl (34, ln + 1, .inl X))) (ha_Y : V0 yy = some (.inl (35, ln + 1, .inl Y))) (ha_Z : V0 zz = some (.inl (36, ln + 1, .inl Z))) (hp0 : M.toInt = (ln : Int)) (hp1 : (ln : Int) ≤ 120) (hp2 : n.toInt ≤ M.toInt) (hp3 : 0 ≤ g.toInt) (hp4 : g.toInt ≤ 3) (hp5 : 0 ≤ x1.toInt) (hp6 : x1.toInt < jdir g.toInt) (hp7 : -120 ≤ (X n.toInt.toNat).toInt) (hp8 : (X n.toInt.toNat).toInt ≤ 120) (hp9 : -120 ≤ (Y n.toInt.toNat).toInt) (hp10 : (Y n.toInt.toNat).toInt ≤ 120) (hp11 : -120 ≤ (Z n.toInt.toNat).toInt) (hp12 : (Z n.toInt.toNat).toInt ≤ 120) (hp13 : n.toInt < M.toInt) (hp14 : ∀ j : Nat, (j : Int) ≤ n.toInt → ¬ ((X j).toInt = (X n.toInt.toNat).toInt + jsx g.toInt x1.toInt ∧ (Y j).toInt = (Y n.toInt.toNat).toInt + jsy g.toInt x1.toInt ((X n.toInt.toNat).toInt + (Y n.toInt.toNat).toInt) ∧ (Z j).toInt = (Z n.toInt.toNat).toInt + jsz g.toInt x1.toInt)) : jTot tS mX3_lay d [.ref a0, .int x1] V0 0 0 (fun r V => (jPost [.inr 1, .inl 6, .inl 34, .inl 35, .inl 36] V0 (fun r _ => ∃ y : Int32, r = some (.int y) ∧ (0 ≤ y.toInt) ∧ (y.toInt ≤ 1) ∧ (y.toInt = 1))) r V ∧ (∃ S2 : Nat → Int32, V s = some (.inl (6, ln, .inl S2)) ∧ S2 n.toInt.toNat = x1 ∧ ∀ j : Nat, j ≠ n.toInt.toNat → S2 j = S j) ∧ (∃ X2 : Nat → Int32, V xx = some (.inl (34, ln + 1, .inl X2)) ∧ (X2 (n.toInt.toNat + 1)).toInt = (X n.toInt.toNat).toInt + jsx g.toInt x1.toInt ∧ ∀ j : Nat, j ≠ n.toInt.toNat + 1 → X2 j = X j) ∧ (∃ Y2 : Nat → Int32, V yy = some (.inl (35, ln + 1, .inl Y2)) ∧ (Y2 (n.toInt.toNat + 1)).toInt = (Y n.toInt.toNat).toInt + jsy g.toInt x1.toInt ((X n.toInt.toNat).toInt + (Y n.toInt.toNat).toInt) ∧ ∀ j : Nat, j ≠ n.toInt.toNat + 1 → Y2 j = Y j) ∧ (∃ Z2 : Nat → Int32, V zz = some (.inl (36, ln + 1, .inl Z2)) ∧ (Z2 (n.toInt.toNat + 1)).toInt = (Z n.toInt.toNat).toInt + jsz g.toInt x1.toInt ∧ ∀ j : Nat, j ≠ n.toInt.toNat + 1 → Z2 j = Z j) ∧ jfp [a0, s, xx, yy, zz] V0 V ∧ (∃ n2 : Int32, jfI V a0 1 6 n2 ∧ (n2.toInt = n.toInt + 1)) ∧ (∃ M2 : Int32, jfI V a0 1 0 M2 ∧ (M2.toInt = M.toInt)) ∧ (∃ g2 : Int32, jfI V a0 1 5 g2 ∧ (g2.toInt = g.toInt))) := by
  refine jTot.of_J [some (.ref a0), some (.int x1), none, none, none] moX3_lay (Nat.le_of_ble_eq_true rfl) rfl ?_
  have hrx1 := j_rng x1
  have he : jeff [.inr 1, .inl 6, .inl 34, .inl 35, .inl 36] V0 V0 := jeff.refl _ _
  have hfp : jfp [a0, s, xx, yy, zz] V0 V0 := jfp.rf
  obtain ⟨fs_a0, hO_a0, hK_a0⟩ := WT_obj hW id ha0
  have hF_M := hf_M.get hO_a0
  have hrM : 0 ≤ M.toInt ∧ M.toInt ≤ 120 := jok_rngI hK_a0 rfl hF_M
  have hF_g := hf_g.get hO_a0
  have hrg : (-2147483648) ≤ g.toInt ∧ g.toInt ≤ 2147483647 := jok_rngI hK_a0 rfl hF_g
  have hF_n := hf_n.get hO_a0
  have hrn : 0 ≤ n.toInt ∧ n.toInt ≤ 120 := jok_rngI hK_a0 rfl hF_n
  have hF_s := hr_s.get hO_a0
  obtain ⟨w_s, hFq_s, b_s, hbq_s, hb_s⟩ := hK_a0.2 1 (.inr (some (.inl 6))) rfl
  cases hF_s.symm.trans (hFq_s.trans (congrArg some hbq_s))
  have hF_xx := hr_xx.get hO_a0
  obtain ⟨w_xx, hFq_xx, b_xx, hbq_xx, hb_xx⟩ := hK_a0.2 2 (.inr (some (.inl 34))) rfl
  cases hF_xx.symm.trans (hFq_xx.trans (congrArg some hbq_xx))
  have hF_yy := hr_yy.get hO_a0
  obtain ⟨w_yy, hFq_yy, b_yy, hbq_yy, hb_yy⟩ := hK_a0.2 3 (.inr (some (.inl 35))) rfl
  cases hF_yy.symm.trans (hFq_yy.trans (congrArg some hbq_yy))
  have hF_zz := hr_zz.get hO_a0
  obtain ⟨w_zz, hFq_zz, b_zz, hbq_zz, hb_zz⟩ := hK_a0.2 4 (.inr (some (.inl 36))) rfl
  cases hF_zz.symm.trans (hFq_zz.trans (congrArg some hbq_zz))
  obtain ⟨hN_S, hv_S⟩ := WT_rngI (r := ((-2147483648), 2147483647)) hW id rfl ha_S
  clear hN_S
  obtain ⟨hN_X, hv_X⟩ := WT_rngI (r := ((-2147483648), 2147483647)) hW id rfl ha_X
  clear hN_X
  obtain ⟨hN_Y, hv_Y⟩ := WT_rngI (r := ((-2147483648), 2147483647)) hW id rfl ha_Y
  clear hN_Y
  obtain ⟨hN_Z, hv_Z⟩ := WT_rngI (r := ((-2147483648), 2147483647)) hW id rfl ha_Z
  clear hN_Z
  have hjd := jdir_cases g.toInt
  have hbx := jsx_b g.toInt x1.toInt
  have hby := jsy_b g.toInt x1.toInt ((X n.toInt.toNat).toInt + (Y n.toInt.toNat).toInt)
  have hbz := jsz_b g.toInt x1.toInt
  refine J_aload_n dX3_lay_0 rfl ?_
  refine J_get jf_X3_15 dX3_lay_1 hO_a0 hF_n ?_
  refine J_aload_n dX3_lay_4 rfl ?_
  refine J_get jf_X3_27 dX3_lay_5 hO_a0 hF_M ?_
  refine Jz_icmp_ge (tgt := 19) jEq.rf jEq.rf dX3_lay_8 (by decide) (fun c8 => ?_) (fun c8 => ?_)
  · refine Jz_iconst 0 dX3_lay_19 (by decide) (fun y19 he19 => ?_)
    exact False.elim (by first | omega | (obtain ⟨j, h1, h2⟩ := hI13_1.of (by omega); exact hp14 j h1 h2))
  · refine J_aload_n dX3_lay_11 rfl ?_
    refine J_iload_n dX3_lay_12 rfl ?_
    refine Jw_callV1 (q9 := (RX3, TX3, 7)) moX3_leads jw_ml_X3_73 jw_im_X3_leads jw_se_X3_leads ha0 rfl rfl dX3_lay_13 (w_X3_leads_z (d - 1) _ a0 x1 M g n s xx yy zz S X Y Z (by omega) hW  ha0 ⟨_, hO_a0, hF_M⟩ ⟨_, hO_a0, hF_g⟩ ⟨_, hO_a0, hF_n⟩ ⟨_, hO_a0, hF_s⟩ ⟨_, hO_a0, hF_xx⟩ ⟨_, hO_a0, hF_yy⟩ ⟨_, hO_a0, hF_zz⟩ ha_S ha_X ha_Y ha_Z (by omega) (by omega) (by omega) (by omega) (by omega) (by omega) (by omega) (by omega) (by omega) (by omega) (by omega) (by omega) (by omega)) (by omega) (Nat.zero_le _) (Nat.zero_le _) (Nat.le_of_ble_eq_true rfl) (fun r13 V13 h13 => ?_)
    obtain ⟨⟨y13, rfl, hl13, hh13, hI13_0, hI13_1⟩, hE13⟩ := h13
    have hE13 := hE13.symm
    subst hE13
    refine Jz_if_ne (tgt := 21) jEq.rf dX3_lay_16 (by decide) (fun c16 => ?_) (fun c16 => ?_)
    · have q16_0 := hI13_0.of (by omega)
      refine J_aload_n dX3_lay_21 rfl ?_
      refine Jw_callV0 (q9 := (RX3, TX3, 7)) moX3_endX jw_ml_X3_47 jw_im_X3_endX jw_se_X3_endX ha0 rfl rfl dX3_lay_22 (w_X3_endX_z (d - 1) _ a0 M g n s xx yy zz S X Y Z (by omega) hW  ha0 ⟨_, hO_a0, hF_M⟩ ⟨_, hO_a0, hF_g⟩ ⟨_, hO_a0, hF_n⟩ ⟨_, hO_a0, hF_s⟩ ⟨_, hO_a0, hF_xx⟩ ⟨_, hO_a0, hF_yy⟩ ⟨_, hO_a0, hF_zz⟩ ha_S ha_X ha_Y ha_Z (by omega) (by omega) (by omega)) (by omega) (Nat.zero_le _) (Nat.zero_le _) (Nat.le_of_ble_eq_true rfl) (fun r22 V22 h22 => ?_)
      obtain ⟨⟨y22, rfl, hl22, hh22, hP22_0⟩, hE22⟩ := h22
      have hE22 := hE22.symm
      subst hE22
      clear hl22 hh22
      have hz22 : jEq y22.toInt ((X (n.toInt).toNat).toInt) := hP22_0
      clear hP22_0
      refine J_aload_n dX3_lay_25 rfl ?_
      refine J_get jf_X3_9 dX3_lay_26 hO_a0 hF_g ?_
      refine J_iload_n dX3_lay_29 rfl ?_
      refine J_callS2 moX0_shiftX jw_ml_X3_51 jw_st_X0_shiftX dX3_lay_30 (w_X0_shiftX_z (d - 1) _ g x1 (by omega)   (by omega) (by omega) (by omega) (by omega)) (by omega) (Nat.zero_le _) (Nat.zero_le _) (Nat.le_of_ble_eq_true rfl) (fun r30 V30 h30 => ?_)
      obtain ⟨⟨y30, rfl, hl30, hh30, hP30_0⟩, hE30⟩ := h30
      have hE30 := hE30.symm
      subst hE30
      clear hl30 hh30
      have hz30 : jEq y30.toInt (jsx (g.toInt) (x1.toInt)) := hP30_0
      clear hP30_0
      refine Jz_iadd hz22 hz30 dX3_lay_33 (by omega) (by omega) (fun y33 he33 => ?_)
      refine J_istore_n dX3_lay_34 rfl (by decide) ?_
      refine J_aload_n dX3_lay_35 rfl ?_
      refine Jw_callV0 (q9 := (RX3, TX3, 7)) moX3_endY jw_ml_X3_56 jw_im_X3_endY jw_se_X3_endY ha0 rfl rfl dX3_lay_36 (w_X3_endY_z (d - 1) _ a0 M g n s xx yy zz S X Y Z (by omega) hW  ha0 ⟨_, hO_a0, hF_M⟩ ⟨_, hO_a0, hF_g⟩ ⟨_, hO_a0, hF_n⟩ ⟨_, hO_a0, hF_s⟩ ⟨_, hO_a0, hF_xx⟩ ⟨_, hO_a0, hF_yy⟩ ⟨_, hO_a0, hF_zz⟩ ha_S ha_X ha_Y ha_Z (by omega) (by omega) (by omega)) (by omega) (Nat.zero_le _) (Nat.zero_le _) (Nat.le_of_ble_eq_true rfl) (fun r36 V36 h36 => ?_)
      obtain ⟨⟨y36, rfl, hl36, hh36, hP36_0⟩, hE36⟩ := h36
      have hE36 := hE36.symm
      subst hE36
      clear hl36 hh36
      have hz36 : jEq y36.toInt ((Y (n.toInt).toNat).toInt) := hP36_0
      clear hP36_0
      refine J_aload_n dX3_lay_39 rfl ?_
      refine J_get jf_X3_9 dX3_lay_40 hO_a0 hF_g ?_
      refine J_iload_n dX3_lay_43 rfl ?_
      refine J_aload_n dX3_lay_44 rfl ?_
      refine Jw_callV0 (q9 := (RX3, TX3, 7)) moX3_endX jw_ml_X3_47 jw_im_X3_endX jw_se_X3_endX ha0 rfl rfl dX3_lay_45 (w_X3_endX_z (d - 1) _ a0 M g n s xx yy zz S X Y Z (by omega) hW  ha0 ⟨_, hO_a0, hF_M⟩ ⟨_, hO_a0, hF_g⟩ ⟨_, hO_a0, hF_n⟩ ⟨_, hO_a0, hF_s⟩ ⟨_, hO_a0, hF_xx⟩ ⟨_, hO_a0, hF_yy⟩ ⟨_, hO_a0, hF_zz⟩ ha_S ha_X ha_Y ha_Z (by omega) (by omega) (by omega)) (by omega) (Nat.zero_le _) (Nat.zero_le _) (Nat.le_of_ble_eq_true rfl) (fun r45 V45 h45 => ?_)
      obtain ⟨⟨y45, rfl, hl45, hh45, hP45_0⟩, hE45⟩ := h45
      have hE45 := hE45.symm
      subst hE45
      clear hl45 hh45
      have hz45 : jEq y45.toInt ((X (n.toInt).toNat).toInt) := hP45_0
      clear hP45_0
      refine J_aload_n dX3_lay_48 rfl ?_
      refine Jw_callV0 (q9 := (RX3, TX3, 7)) moX3_endY jw_ml_X3_56 jw_im_X3_endY jw_se_X3_endY ha0 rfl rfl dX3_lay_49 (w_X3_endY_z (d - 1) _ a0 M g n s xx yy zz S X Y Z (by omega) hW  ha0 ⟨_, hO_a0, hF_M⟩ ⟨_, hO_a0, hF_g⟩ ⟨_, hO_a0, hF_n⟩ ⟨_, hO_a0, hF_s⟩ ⟨_, hO_a0, hF_xx⟩ ⟨_, hO_a0, hF_yy⟩ ⟨_, hO_a0, hF_zz⟩ ha_S ha_X ha_Y ha_Z (by omega) (by omega) (by omega)) (by omega) (Nat.zero_le _) (Nat.zero_le _) (Nat.le_of_ble_eq_true rfl) (fun r49 V49 h49 => ?_)
      obtain ⟨⟨y49, rfl, hl49, hh49, hP49_0⟩, hE49⟩ := h49
      have hE49 := hE49.symm
      subst hE49
      clear hl49 hh49
      have hz49 : jEq y49.toInt ((Y (n.toInt).toNat).toInt) := hP49_0
      clear hP49_0
      refine J_callS4 moX0_shiftY jw_ml_X3_59 jw_st_X0_shiftY dX3_lay_52 (w_X0_shiftY_z (d - 1) _ g x1 y45 y49 (by omega)   (by omega) (by omega) (by omega) (by omega) (by (try simp only [hz45.eq, true_and, and_true]) <;> omega) (by (try simp only [hz45.eq, true_and, and_true]) <;> omega) (by (try simp only [hz49.eq, true_and, and_true]) <;> omega) (by (try simp only [hz49.eq, true_and, and_true]) <;> omega)) (by omega) (Nat.zero_le _) (Nat.zero_le _) (Nat.le_of_ble_eq_true rfl) (fun r52 V52 h52 => ?_)
      obtain ⟨⟨y52, rfl, hl52, hh52, hP52_0⟩, hE52⟩ := h52
      have hE52 := hE52.symm
      subst hE52
      clear hl52 hh52
      try simp only [hz45.eq, hz49.eq] at hP52_0
      have hz52 : jEq y52.toInt (jsy (g.toInt) (x1.toInt) (((X (n.toInt).toNat).toInt) + ((Y (n.toInt).toNat).toInt))) := hP52_0
      clear hP52_0
      refine Jz_iadd hz36 hz52 dX3_lay_55 (by omega) (by omega) (fun y55 he55 => ?_)
      refine J_istore_n dX3_lay_56 rfl (by decide) ?_
      refine J_aload_n dX3_lay_57 rfl ?_
      refine Jw_callV0 (q9 := (RX3, TX3, 7)) moX3_endZ jw_ml_X3_63 jw_im_X3_endZ jw_se_X3_endZ ha0 rfl rfl dX3_lay_58 (w_X3_endZ_z (d - 1) _ a0 M g n s xx yy zz S X Y Z (by omega) hW  ha0 ⟨_, hO_a0, hF_M⟩ ⟨_, hO_a0, hF_g⟩ ⟨_, hO_a0, hF_n⟩ ⟨_, hO_a0, hF_s⟩ ⟨_, hO_a0, hF_xx⟩ ⟨_, hO_a0, hF_yy⟩ ⟨_, hO_a0, hF_zz⟩ ha_S ha_X ha_Y ha_Z (by omega) (by omega) (by omega)) (by omega) (Nat.zero_le _) (Nat.zero_le _) (Nat.le_of_ble_eq_true rfl) (fun r58 V58 h58 => ?_)
      obtain ⟨⟨y58, rfl, hl58, hh58, hP58_0⟩, hE58⟩ := h58
      have hE58 := hE58.symm
      subst hE58
      clear hl58 hh58
      have hz58 : jEq y58.toInt ((Z (n.toInt).toNat).toInt) := hP58_0
      clear hP58_0
      refine J_aload_n dX3_lay_61 rfl ?_
      refine J_get jf_X3_9 dX3_lay_62 hO_a0 hF_g ?_
      refine J_iload_n dX3_lay_65 rfl ?_
      refine J_callS2 moX0_shiftZ jw_ml_X3_66 jw_st_X0_shiftZ dX3_lay_66 (w_X0_shiftZ_z (d - 1) _ g x1 (by omega)   (by omega) (by omega) (by omega) (by omega)) (by omega) (Nat.zero_le _) (Nat.zero_le _) (Nat.le_of_ble_eq_true rfl) (fun r66 V66 h66 => ?_)
      obtain ⟨⟨y66, rfl, hl66, hh66, hP66_0⟩, hE66⟩ := h66
      have hE66 := hE66.symm
      subst hE66
      clear hl66 hh66
      have hz66 : jEq y66.toInt (jsz (g.toInt) (x1.toInt)) := hP66_0
      clear hP66_0
      refine Jz_iadd hz58 hz66 dX3_lay_69 (by omega) (by omega) (fun y69 he69 => ?_)
      refine J_istore dX3_lay_70 rfl (by decide) ?_
      refine J_aload_n dX3_lay_72 rfl ?_
      refine J_get jf_X3_30 dX3_lay_73 hO_a0 hF_s ?_
      refine J_aload_n dX3_lay_76 rfl ?_
      refine J_get jf_X3_15 dX3_lay_77 hO_a0 hF_n ?_
      refine J_iload_n dX3_lay_80 rfl ?_
      refine J_callSN3 moX6_put (host := "WalkGrounds") (List.mem_of_getElem? (i := 1) rfl) jw_st_X6_put dX3_lay_81 (w_X6_put_z (d - 1) _ s n x1 hW ha_S (WT_rngI (r := (-2147483648, 2147483647)) hW id rfl ha_S).1 rfl rfl (by omega)) (by omega) (Nat.zero_le _) (Nat.zero_le _) (Nat.le_of_ble_eq_true rfl) (fun r81 V81 h81 => ?_)
      obtain ⟨rfl, hW, hx81, hB81, G81, hA81, hp81, ho81⟩ := h81
      obtain ⟨hN81, hv81⟩ := WT_rngI (r := (-2147483648, 2147483647)) hW id rfl hA81
      clear hN81
      have he := he.trans (hx81.sub (jsub_of rfl))
      have hfp := hfp.trans (jfp.one hB81 (List.mem_cons_of_mem _ List.mem_cons_self))
      have ha0 := ha0.mono hx81.1
      have hb_s := hb_s.mono hx81.1
      have hb_xx := hb_xx.mono hx81.1
      have hb_yy := hb_yy.mono hx81.1
      have hb_zz := hb_zz.mono hx81.1
      have hO_a0 := hx81.2 _ _ hO_a0 (jnot_of rfl)
      have hK_a0 := hK_a0.mono hx81.1
      have ha_X := hx81.2 _ _ ha_X (jnot_of rfl)
      have ha_Y := hx81.2 _ _ ha_Y (jnot_of rfl)
      have ha_Z := hx81.2 _ _ ha_Z (jnot_of rfl)
      · refine J_aload_n dX3_lay_84 rfl ?_
        refine J_dup dX3_lay_85 rfl ?_
        refine J_get jf_X3_15 dX3_lay_86 hO_a0 hF_n ?_
        refine Jz_iconst 1 dX3_lay_89 (by decide) (fun y89 he89 => ?_)
        refine Jz_iadd jEq.rf he89 dX3_lay_90 (by omega) (by omega) (fun y90 he90 => ?_)
        refine Jz_putI hO_a0 hW id rfl jf_X3_15 jt_X3_6 he90 dX3_lay_91 (by omega) (by omega) (fun _ _ => ⟨rfl, rfl⟩) (fun V91 fs91 hW hx91 hO91 hS91 hT91 hB91 => ?_)
        have hK91 : jokO _ (jFs 1) fs91 := hW _ _ id hO91
        have hF91_0 := (hT91 0 (by decide)).trans hF_M
        have hF91_5 := (hT91 5 (by decide)).trans hF_g
        have hF91_1 := (hT91 1 (by decide)).trans hF_s
        have hF91_2 := (hT91 2 (by decide)).trans hF_xx
        have hF91_3 := (hT91 3 (by decide)).trans hF_yy
        have hF91_4 := (hT91 4 (by decide)).trans hF_zz
        have he := he.trans (hx91.sub (jsub_of rfl))
        have hfp := hfp.trans (jfp.one hB91 List.mem_cons_self)
        have ha0 := ha0.mono hx91.1
        have hb_s := hb_s.mono hx91.1
        have hb_xx := hb_xx.mono hx91.1
        have hb_yy := hb_yy.mono hx91.1
        have hb_zz := hb_zz.mono hx91.1
        have ha_X := hx91.2 _ _ ha_X (jnot_of rfl)
        have ha_Y := hx91.2 _ _ ha_Y (jnot_of rfl)
        have ha_Z := hx91.2 _ _ ha_Z (jnot_of rfl)
        have hA81 := hx91.2 _ _ hA81 (jnot_of rfl)
        refine J_aload_n dX3_lay_94 rfl ?_
        refine J_get jf_X3_34 dX3_lay_95 hO91 hF91_2 ?_
        refine J_aload_n dX3_lay_98 rfl ?_
        refine J_get jf_X3_15 dX3_lay_99 hO91 hS91 ?_
        refine J_iload_n dX3_lay_102 rfl ?_
        refine J_callSN3 moX6_put (host := "WalkGrounds") (List.mem_of_getElem? (i := 1) rfl) jw_st_X6_put dX3_lay_103 (w_X6_put_z (d - 1) _ xx y90 y33 hW ha_X (WT_rngI (r := (-2147483648, 2147483647)) hW id rfl ha_X).1 rfl rfl (by (try simp only [he90.eq, true_and, and_true]) <;> omega)) (by omega) (Nat.zero_le _) (Nat.zero_le _) (Nat.le_of_ble_eq_true rfl) (fun r103 V103 h103 => ?_)
        obtain ⟨rfl, hW, hx103, hB103, G103, hA103, hp103, ho103⟩ := h103
        simp only [he90.eq] at hp103 ho103
        obtain ⟨hN103, hv103⟩ := WT_rngI (r := (-2147483648, 2147483647)) hW id rfl hA103
        clear hN103
        have he := he.trans (hx103.sub (jsub_of rfl))
        have hfp := hfp.trans (jfp.one hB103 (List.mem_cons_of_mem _ (List.mem_cons_of_mem _ List.mem_cons_self)))
        have ha0 := ha0.mono hx103.1
        have hb_s := hb_s.mono hx103.1
        have hb_xx := hb_xx.mono hx103.1
        have hb_yy := hb_yy.mono hx103.1
        have hb_zz := hb_zz.mono hx103.1
        have hO91 := hx103.2 _ _ hO91 (jnot_of rfl)
        have hK91 := hK91.mono hx103.1
        have ha_Y := hx103.2 _ _ ha_Y (jnot_of rfl)
        have ha_Z := hx103.2 _ _ ha_Z (jnot_of rfl)
        have hA81 := hx103.2 _ _ hA81 (jnot_of rfl)
        · refine J_aload_n dX3_lay_106 rfl ?_
          refine J_get jf_X3_37 dX3_lay_107 hO91 hF91_3 ?_
          refine J_aload_n dX3_lay_110 rfl ?_
          refine J_get jf_X3_15 dX3_lay_111 hO91 hS91 ?_
          refine J_iload_n dX3_lay_114 rfl ?_
          refine J_callSN3 moX6_put (host := "WalkGrounds") (List.mem_of_getElem? (i := 1) rfl) jw_st_X6_put dX3_lay_115 (w_X6_put_z (d - 1) _ yy y90 y55 hW ha_Y (WT_rngI (r := (-2147483648, 2147483647)) hW id rfl ha_Y).1 rfl rfl (by (try simp only [he90.eq, true_and, and_true]) <;> omega)) (by omega) (Nat.zero_le _) (Nat.zero_le _) (Nat.le_of_ble_eq_true rfl) (fun r115 V115 h115 => ?_)
          obtain ⟨rfl, hW, hx115, hB115, G115, hA115, hp115, ho115⟩ := h115
          simp only [he90.eq] at hp115 ho115
          obtain ⟨hN115, hv115⟩ := WT_rngI (r := (-2147483648, 2147483647)) hW id rfl hA115
          clear hN115
          have he := he.trans (hx115.sub (jsub_of rfl))
          have hfp := hfp.trans (jfp.one hB115 (List.mem_cons_of_mem _ (List.mem_cons_of_mem _ (List.mem_cons_of_mem _ List.mem_cons_self))))
          have ha0 := ha0.mono hx115.1
          have hb_s := hb_s.mono hx115.1
          have hb_xx := hb_xx.mono hx115.1
          have hb_yy := hb_yy.mono hx115.1
          have hb_zz := hb_zz.mono hx115.1
          have hO91 := hx115.2 _ _ hO91 (jnot_of rfl)
          have hK91 := hK91.mono hx115.1
          have ha_Z := hx115.2 _ _ ha_Z (jnot_of rfl)
          have hA81 := hx115.2 _ _ hA81 (jnot_of rfl)
          have hA103 := hx115.2 _ _ hA103 (jnot_of rfl)
          · refine J_aload_n dX3_lay_118 rfl ?_
            refine J_get jf_X3_40 dX3_lay_119 hO91 hF91_4 ?_
            refine J_aload_n dX3_lay_122 rfl ?_
            refine J_get jf_X3_15 dX3_lay_123 hO91 hS91 ?_
            refine J_iload dX3_lay_126 rfl ?_
            refine J_callSN3 moX6_put (host := "WalkGrounds") (List.mem_of_getElem? (i := 1) rfl) jw_st_X6_put dX3_lay_128 (w_X6_put_z (d - 1) _ zz y90 y69 hW ha_Z (WT_rngI (r := (-2147483648, 2147483647)) hW id rfl ha_Z).1 rfl rfl (by (try simp only [he90.eq, true_and, and_true]) <;> omega)) (by omega) (Nat.zero_le _) (Nat.zero_le _) (Nat.le_of_ble_eq_true rfl) (fun r128 V128 h128 => ?_)
            obtain ⟨rfl, hW, hx128, hB128, G128, hA128, hp128, ho128⟩ := h128
            simp only [he90.eq] at hp128 ho128
            obtain ⟨hN128, hv128⟩ := WT_rngI (r := (-2147483648, 2147483647)) hW id rfl hA128
            clear hN128
            have he := he.trans (hx128.sub (jsub_of rfl))
            have hfp := hfp.trans (jfp.one hB128 (List.mem_cons_of_mem _ (List.mem_cons_of_mem _ (List.mem_cons_of_mem _ (List.mem_cons_of_mem _ List.mem_cons_self)))))
            have ha0 := ha0.mono hx128.1
            have hb_s := hb_s.mono hx128.1
            have hb_xx := hb_xx.mono hx128.1
            have hb_yy := hb_yy.mono hx128.1
            have hb_zz := hb_zz.mono hx128.1
            have hO91 := hx128.2 _ _ hO91 (jnot_of rfl)
            have hK91 := hK91.mono hx128.1
            have hA81 := hx128.2 _ _ hA81 (jnot_of rfl)
            have hA103 := hx128.2 _ _ hA103 (jnot_of rfl)
            have hA115 := hx128.2 _ _ hA115 (jnot_of rfl)
            · refine Jz_iconst 1 dX3_lay_131 (by decide) (fun y131 he131 => ?_)
              exact J_ret (r := some (.int _)) dX3_lay_132 ⟨rfl, _, rfl, (nar_b (by (try simp only [he131.eq, true_and, and_true]) <;> omega) (by (try simp only [he131.eq, true_and, and_true]) <;> omega))⟩ (⟨⟨hW, he, ⟨_, rfl, (by (try simp only [he131.eq, true_and, and_true]) <;> omega), (by (try simp only [he131.eq, true_and, and_true]) <;> omega), (by (try simp only [he131.eq, true_and, and_true]) <;> omega)⟩⟩, ⟨G81, hA81, hp81 (by omega), ho81⟩, ⟨G103, hA103, (by rw [show n.toInt.toNat + 1 = (n.toInt + 1).toNat by omega, hp103 (by omega), he33.eq]), (fun j hj => ho103 j (by omega))⟩, ⟨G115, hA115, (by rw [show n.toInt.toNat + 1 = (n.toInt + 1).toNat by omega, hp115 (by omega), he55.eq]), (fun j hj => ho115 j (by omega))⟩, ⟨G128, hA128, (by rw [show n.toInt.toNat + 1 = (n.toInt + 1).toNat by omega, hp128 (by omega), he69.eq]), (fun j hj => ho128 j (by omega))⟩, hfp, ⟨_, ⟨_, hO91, hS91⟩, (by (try simp only [he90.eq, true_and, and_true]) <;> omega)⟩, ⟨_, ⟨_, hO91, hF91_0⟩, (by omega)⟩, ⟨_, ⟨_, hO91, hF91_5⟩, (by omega)⟩⟩)
    · have q16_1 := hI13_1.of (by omega)
      refine Jz_iconst 0 dX3_lay_19 (by decide) (fun y19 he19 => ?_)
      exact False.elim (by first | omega | (obtain ⟨j, h1, h2⟩ := hI13_1.of (by omega); exact hp14 j h1 h2))
set_option maxRecDepth 100000 in
set_option maxHeartbeats 8000000 in
theorem w_X3_drop_z {tS : jTS} (d : Nat) (V0 : jH) (a0 : Nat) (x1 : Int32) (M : Int32) (g : Int32) (n : Int32) (hd : 1 ≤ d) (hW : WT V0) (ha0 : jis V0 (.inr 1) a0) (hf_M : jfI V0 a0 1 0 M) (hf_g : jfI V0 a0 1 5 g) (hf_n : jfI V0 a0 1 6 n) (hp0 : 0 ≤ x1.toInt) (hp1 : x1.toInt ≤ n.toInt) : jTot tS mX3_drop d [.ref a0, .int x1] V0 0 0 (fun r V => (jPost [.inr 1] V0 rV) r V ∧ jfp [a0] V0 V ∧ (∃ M2 : Int32, jfI V a0 1 0 M2 ∧ (M2.toInt = M.toInt)) ∧ (∃ g2 : Int32, jfI V a0 1 5 g2 ∧ (g2.toInt = g.toInt)) ∧ (∃ n2 : Int32, jfI V a0 1 6 n2 ∧ (n2.toInt = n.toInt - x1.toInt))) := by
  refine jTot.of_J [some (.ref a0), some (.int x1)] moX3_drop (Nat.le_of_ble_eq_true rfl) rfl ?_
  have hrx1 := j_rng x1
  have he : jeff [.inr 1] V0 V0 := jeff.refl _ _
  have hfp : jfp [a0] V0 V0 := jfp.rf
  obtain ⟨fs_a0, hO_a0, hK_a0⟩ := WT_obj hW id ha0
  have hF_M := hf_M.get hO_a0
  have hrM : 0 ≤ M.toInt ∧ M.toInt ≤ 120 := jok_rngI hK_a0 rfl hF_M
  have hF_g := hf_g.get hO_a0
  have hrg : (-2147483648) ≤ g.toInt ∧ g.toInt ≤ 2147483647 := jok_rngI hK_a0 rfl hF_g
  have hF_n := hf_n.get hO_a0
  have hrn : 0 ≤ n.toInt ∧ n.toInt ≤ 120 := jok_rngI hK_a0 rfl hF_n
  refine J_aload_n dX3_drop_0 rfl ?_
  refine Jz_iconst 0 dX3_drop_1 (by decide) (fun y1 he1 => ?_)
  refine J_aload_n dX3_drop_2 rfl ?_
  refine J_get jf_X3_15 dX3_drop_3 hO_a0 hF_n ?_
  refine Jz_iconst 0 dX3_drop_6 (by decide) (fun y6 he6 => ?_)
  refine J_iload_n dX3_drop_7 rfl ?_
  refine J_mmax jw_ml_X3_24 dX3_drop_8 (by omega) (Nat.le_of_ble_eq_true rfl) ?_
  have hz8 : jEq (if y6 < x1 then x1 else y6).toInt (x1.toInt) := by have q := jmaxi (x := y6) (y := x1) he6 jEq.rf; exact (show (if y6 < x1 then x1 else y6).toInt = x1.toInt by omega)
  generalize (if y6 < x1 then x1 else y6) = y8 at hz8 ⊢
  refine Jz_isub jEq.rf hz8 dX3_drop_11 (by omega) (by omega) (fun y11 he11 => ?_)
  refine J_mmax jw_ml_X3_24 dX3_drop_12 (by omega) (Nat.le_of_ble_eq_true rfl) ?_
  have hz12 : jEq (if y1 < y11 then y11 else y1).toInt (n.toInt - x1.toInt) := by have q := jmaxi (x := y1) (y := y11) he1 he11; exact (show (if y1 < y11 then y11 else y1).toInt = n.toInt - x1.toInt by omega)
  generalize (if y1 < y11 then y11 else y1) = y12 at hz12 ⊢
  refine Jz_putI hO_a0 hW id rfl jf_X3_15 jt_X3_6 hz12 dX3_drop_15 (by omega) (by omega) (fun _ _ => ⟨rfl, rfl⟩) (fun V15 fs15 hW hx15 hO15 hS15 hT15 hB15 => ?_)
  have hK15 : jokO _ (jFs 1) fs15 := hW _ _ id hO15
  have hF15_0 := (hT15 0 (by decide)).trans hF_M
  have hF15_5 := (hT15 5 (by decide)).trans hF_g
  have he := he.trans (hx15.sub (jsub_of rfl))
  have hfp := hfp.trans (jfp.one hB15 List.mem_cons_self)
  have ha0 := ha0.mono hx15.1
  exact J_ret (r := none) dX3_drop_18 ⟨rfl, rfl⟩ (⟨⟨hW, he, rfl⟩, hfp, ⟨_, ⟨_, hO15, hF15_0⟩, (by omega)⟩, ⟨_, ⟨_, hO15, hF15_5⟩, (by omega)⟩, ⟨_, ⟨_, hO15, hS15⟩, (by (try simp only [hz12.eq, true_and, and_true]) <;> omega)⟩⟩)
set_option maxRecDepth 100000 in
set_option maxHeartbeats 8000000 in
theorem w_X3_become_z {tS : jTS} (d : Nat) (V0 : jH) {ln lb : Nat} (a0 : Nat) (a1 : Nat) (M : Int32) (gb : Int32) (nb : Int32) (s : Nat) (xx : Nat) (yy : Nat) (zz : Nat) (sb : Nat) (xb : Nat) (yb : Nat) (zb : Nat) (S : Nat → Int32) (X : Nat → Int32) (Y : Nat → Int32) (Z : Nat → Int32) (SB : Nat → Int32) (XB : Nat → Int32) (YB : Nat → Int32) (ZB : Nat → Int32) (hd : 1 ≤ d) (hW : WT V0) (ha0 : jis V0 (.inr 1) a0) (ha1 : jis V0 (.inr 1) a1) (hf_M : jfI V0 a0 1 0 M) (hf_gb : jfI V0 a1 1 5 gb) (hf_nb : jfI V0 a1 1 6 nb) (hr_s : jfR V0 a0 1 1 s) (hr_xx : jfR V0 a0 1 2 xx) (hr_yy : jfR V0 a0 1 3 yy) (hr_zz : jfR V0 a0 1 4 zz) (hr_sb : jfR V0 a1 1 1 sb) (hr_xb : jfR V0 a1 1 2 xb) (hr_yb : jfR V0 a1 1 3 yb) (hr_zb : jfR V0 a1 1 4 zb) (hs0 : a1 ≠ a0) (hs1 : sb ≠ s) (hs2 : xb ≠ xx) (hs3 : yb ≠ yy) (hs4 : zb ≠ zz) (ha_S : V0 s = some (.inl (6, ln, .inl S))) (ha_X : V0 xx = some (.inl (34, ln + 1, .inl X))) (ha_Y : V0 yy = some (.inl (35, ln + 1, .inl Y))) (ha_Z : V0 zz = some (.inl (36, ln + 1, .inl Z))) (ha_SB : V0 sb = some (.inl (6, lb, .inl SB))) (ha_XB : V0 xb = some (.inl (34, lb + 1, .inl XB))) (ha_YB : V0 yb = some (.inl (35, lb + 1, .inl YB))) (ha_ZB : V0 zb = some (.inl (36, lb + 1, .inl ZB))) (hp0 : M.toInt = (ln : Int)) (hp1 : (ln : Int) ≤ 120) (hp2 : (lb : Int) ≤ 120) (hp3 : nb.toInt ≤ M.toInt) (hp4 : nb.toInt ≤ (lb : Int)) : jTot tS mX3_become d [.ref a0, .ref a1] V0 0 0 (fun r V => (jPost [.inr 1, .inl 6, .inl 34, .inl 35, .inl 36] V0 rV) r V ∧ (∃ S2 : Nat → Int32, V s = some (.inl (6, ln, .inl S2)) ∧ ∀ j : Nat, (j : Int) < nb.toInt → S2 j = SB j) ∧ (∃ X2 : Nat → Int32, V xx = some (.inl (34, ln + 1, .inl X2)) ∧ ∀ j : Nat, (j : Int) ≤ nb.toInt → X2 j = XB j) ∧ (∃ Y2 : Nat → Int32, V yy = some (.inl (35, ln + 1, .inl Y2)) ∧ ∀ j : Nat, (j : Int) ≤ nb.toInt → Y2 j = YB j) ∧ (∃ Z2 : Nat → Int32, V zz = some (.inl (36, ln + 1, .inl Z2)) ∧ ∀ j : Nat, (j : Int) ≤ nb.toInt → Z2 j = ZB j) ∧ jfp [a0, s, xx, yy, zz] V0 V ∧ (∃ M2 : Int32, jfI V a0 1 0 M2 ∧ (M2.toInt = M.toInt)) ∧ (∃ g2 : Int32, jfI V a0 1 5 g2 ∧ (g2.toInt = gb.toInt)) ∧ (∃ n2 : Int32, jfI V a0 1 6 n2 ∧ (n2.toInt = nb.toInt))) := by
  refine jTot.of_J [some (.ref a0), some (.ref a1), none] moX3_become (Nat.le_of_ble_eq_true rfl) rfl ?_
  have he : jeff [.inr 1, .inl 6, .inl 34, .inl 35, .inl 36] V0 V0 := jeff.refl _ _
  have hfp : jfp [a0, s, xx, yy, zz] V0 V0 := jfp.rf
  obtain ⟨fs_a0, hO_a0, hK_a0⟩ := WT_obj hW id ha0
  obtain ⟨fs_a1, hO_a1, hK_a1⟩ := WT_obj hW id ha1
  have hF_M := hf_M.get hO_a0
  have hrM : 0 ≤ M.toInt ∧ M.toInt ≤ 120 := jok_rngI hK_a0 rfl hF_M
  have hF_gb := hf_gb.get hO_a1
  have hrgb : (-2147483648) ≤ gb.toInt ∧ gb.toInt ≤ 2147483647 := jok_rngI hK_a1 rfl hF_gb
  have hF_nb := hf_nb.get hO_a1
  have hrnb : 0 ≤ nb.toInt ∧ nb.toInt ≤ 120 := jok_rngI hK_a1 rfl hF_nb
  have hF_s := hr_s.get hO_a0
  obtain ⟨w_s, hFq_s, b_s, hbq_s, hb_s⟩ := hK_a0.2 1 (.inr (some (.inl 6))) rfl
  cases hF_s.symm.trans (hFq_s.trans (congrArg some hbq_s))
  have hF_xx := hr_xx.get hO_a0
  obtain ⟨w_xx, hFq_xx, b_xx, hbq_xx, hb_xx⟩ := hK_a0.2 2 (.inr (some (.inl 34))) rfl
  cases hF_xx.symm.trans (hFq_xx.trans (congrArg some hbq_xx))
  have hF_yy := hr_yy.get hO_a0
  obtain ⟨w_yy, hFq_yy, b_yy, hbq_yy, hb_yy⟩ := hK_a0.2 3 (.inr (some (.inl 35))) rfl
  cases hF_yy.symm.trans (hFq_yy.trans (congrArg some hbq_yy))
  have hF_zz := hr_zz.get hO_a0
  obtain ⟨w_zz, hFq_zz, b_zz, hbq_zz, hb_zz⟩ := hK_a0.2 4 (.inr (some (.inl 36))) rfl
  cases hF_zz.symm.trans (hFq_zz.trans (congrArg some hbq_zz))
  have hF_sb := hr_sb.get hO_a1
  obtain ⟨w_sb, hFq_sb, b_sb, hbq_sb, hb_sb⟩ := hK_a1.2 1 (.inr (some (.inl 6))) rfl
  cases hF_sb.symm.trans (hFq_sb.trans (congrArg some hbq_sb))
  have hF_xb := hr_xb.get hO_a1
  obtain ⟨w_xb, hFq_xb, b_xb, hbq_xb, hb_xb⟩ := hK_a1.2 2 (.inr (some (.inl 34))) rfl
  cases hF_xb.symm.trans (hFq_xb.trans (congrArg some hbq_xb))
  have hF_yb := hr_yb.get hO_a1
  obtain ⟨w_yb, hFq_yb, b_yb, hbq_yb, hb_yb⟩ := hK_a1.2 3 (.inr (some (.inl 35))) rfl
  cases hF_yb.symm.trans (hFq_yb.trans (congrArg some hbq_yb))
  have hF_zb := hr_zb.get hO_a1
  obtain ⟨w_zb, hFq_zb, b_zb, hbq_zb, hb_zb⟩ := hK_a1.2 4 (.inr (some (.inl 36))) rfl
  cases hF_zb.symm.trans (hFq_zb.trans (congrArg some hbq_zb))
  obtain ⟨hN_S, hv_S⟩ := WT_rngI (r := ((-2147483648), 2147483647)) hW id rfl ha_S
  clear hN_S
  obtain ⟨hN_X, hv_X⟩ := WT_rngI (r := ((-2147483648), 2147483647)) hW id rfl ha_X
  clear hN_X
  obtain ⟨hN_Y, hv_Y⟩ := WT_rngI (r := ((-2147483648), 2147483647)) hW id rfl ha_Y
  clear hN_Y
  obtain ⟨hN_Z, hv_Z⟩ := WT_rngI (r := ((-2147483648), 2147483647)) hW id rfl ha_Z
  clear hN_Z
  obtain ⟨hN_SB, hv_SB⟩ := WT_rngI (r := ((-2147483648), 2147483647)) hW id rfl ha_SB
  clear hN_SB
  obtain ⟨hN_XB, hv_XB⟩ := WT_rngI (r := ((-2147483648), 2147483647)) hW id rfl ha_XB
  clear hN_XB
  obtain ⟨hN_YB, hv_YB⟩ := WT_rngI (r := ((-2147483648), 2147483647)) hW id rfl ha_YB
  clear hN_YB
  obtain ⟨hN_ZB, hv_ZB⟩ := WT_rngI (r := ((-2147483648), 2147483647)) hW id rfl ha_ZB
  clear hN_ZB
  refine J_aload_n dX3_become_0 rfl ?_
  refine J_ifnull dX3_become_1 ?_
  refine J_aload_n dX3_become_4 rfl ?_
  refine J_get jf_X3_15 dX3_become_5 hO_a1 hF_nb ?_
  refine J_aload_n dX3_become_8 rfl ?_
  refine J_get jf_X3_27 dX3_become_9 hO_a0 hF_M ?_
  refine Jz_icmp_le (tgt := 16) jEq.rf jEq.rf dX3_become_12 (by decide) (fun c12 => ?_) (fun c12 => ?_)
  · refine J_aload_n dX3_become_16 rfl ?_
    refine J_aload_n dX3_become_17 rfl ?_
    refine J_get jf_X3_9 dX3_become_18 hO_a1 hF_gb ?_
    refine Jz_putI hO_a0 hW id rfl jf_X3_9 jt_X3_5 jEq.rf dX3_become_21 (j_rng _).1 (j_rng _).2 (fun _ _ => ⟨rfl, rfl⟩) (fun V21 fs21 hW hx21 hO21 hS21 hT21 hB21 => ?_)
    have hK21 : jokO _ (jFs 1) fs21 := hW _ _ id hO21
    have hF21_0 := (hT21 0 (by decide)).trans hF_M
    have hF21_1 := (hT21 1 (by decide)).trans hF_s
    have hF21_2 := (hT21 2 (by decide)).trans hF_xx
    have hF21_3 := (hT21 3 (by decide)).trans hF_yy
    have hF21_4 := (hT21 4 (by decide)).trans hF_zz
    have he := he.trans (hx21.sub (jsub_of rfl))
    have hfp := hfp.trans (jfp.one hB21 List.mem_cons_self)
    have ha0 := ha0.mono hx21.1
    have ha1 := ha1.mono hx21.1
    have hb_s := hb_s.mono hx21.1
    have hb_xx := hb_xx.mono hx21.1
    have hb_yy := hb_yy.mono hx21.1
    have hb_zz := hb_zz.mono hx21.1
    have hb_sb := hb_sb.mono hx21.1
    have hb_xb := hb_xb.mono hx21.1
    have hb_yb := hb_yb.mono hx21.1
    have hb_zb := hb_zb.mono hx21.1
    have hO_a1 := (hB21 a1 hs0).trans hO_a1
    have hK_a1 := hK_a1.mono hx21.1
    have ha_S := hx21.2 _ _ ha_S (jnot_of rfl)
    have ha_X := hx21.2 _ _ ha_X (jnot_of rfl)
    have ha_Y := hx21.2 _ _ ha_Y (jnot_of rfl)
    have ha_Z := hx21.2 _ _ ha_Z (jnot_of rfl)
    have ha_SB := hx21.2 _ _ ha_SB (jnot_of rfl)
    have ha_XB := hx21.2 _ _ ha_XB (jnot_of rfl)
    have ha_YB := hx21.2 _ _ ha_YB (jnot_of rfl)
    have ha_ZB := hx21.2 _ _ ha_ZB (jnot_of rfl)
    refine J_aload_n dX3_become_24 rfl ?_
    refine J_aload_n dX3_become_25 rfl ?_
    refine J_get jf_X3_15 dX3_become_26 hO_a1 hF_nb ?_
    refine Jz_putI hO21 hW id rfl jf_X3_15 jt_X3_6 jEq.rf dX3_become_29 (by omega) (by omega) (fun _ _ => ⟨rfl, rfl⟩) (fun V29 fs29 hW hx29 hO29 hS29 hT29 hB29 => ?_)
    have hK29 : jokO _ (jFs 1) fs29 := hW _ _ id hO29
    have hF29_5 := (hT29 5 (by decide)).trans hS21
    have hF29_0 := (hT29 0 (by decide)).trans hF21_0
    have hF29_1 := (hT29 1 (by decide)).trans hF21_1
    have hF29_2 := (hT29 2 (by decide)).trans hF21_2
    have hF29_3 := (hT29 3 (by decide)).trans hF21_3
    have hF29_4 := (hT29 4 (by decide)).trans hF21_4
    have he := he.trans (hx29.sub (jsub_of rfl))
    have hfp := hfp.trans (jfp.one hB29 List.mem_cons_self)
    have ha0 := ha0.mono hx29.1
    have ha1 := ha1.mono hx29.1
    have hb_s := hb_s.mono hx29.1
    have hb_xx := hb_xx.mono hx29.1
    have hb_yy := hb_yy.mono hx29.1
    have hb_zz := hb_zz.mono hx29.1
    have hb_sb := hb_sb.mono hx29.1
    have hb_xb := hb_xb.mono hx29.1
    have hb_yb := hb_yb.mono hx29.1
    have hb_zb := hb_zb.mono hx29.1
    have hO_a1 := (hB29 a1 hs0).trans hO_a1
    have hK_a1 := hK_a1.mono hx29.1
    have ha_S := hx29.2 _ _ ha_S (jnot_of rfl)
    have ha_X := hx29.2 _ _ ha_X (jnot_of rfl)
    have ha_Y := hx29.2 _ _ ha_Y (jnot_of rfl)
    have ha_Z := hx29.2 _ _ ha_Z (jnot_of rfl)
    have ha_SB := hx29.2 _ _ ha_SB (jnot_of rfl)
    have ha_XB := hx29.2 _ _ ha_XB (jnot_of rfl)
    have ha_YB := hx29.2 _ _ ha_YB (jnot_of rfl)
    have ha_ZB := hx29.2 _ _ ha_ZB (jnot_of rfl)
    refine Jz_iconst 0 dX3_become_32 (by decide) (fun y32 he32 => ?_)
    refine J_istore_n dX3_become_33 rfl (by decide) ?_
    have L34 : ∀ (N : Nat) (V : jH) (i2n34 : Int32) (F6n34 : Nat → Int32) (F34n34 : Nat → Int32) (F35n34 : Nat → Int32) (F36n34 : Nat → Int32), WT V → jeff [.inr 1, .inl 6, .inl 34, .inl 35, .inl 36] V0 V → (jis V (.inr 1) a0) → (jis V (.inr 1) a1) → (jis V (.inl 6) s) → (jis V (.inl 34) xx) → (jis V (.inl 35) yy) → (jis V (.inl 36) zz) → (jis V (.inl 6) sb) → (jis V (.inl 34) xb) → (jis V (.inl 35) yb) → (jis V (.inl 36) zb) → (jfp [a0, s, xx, yy, zz] V0 V) → (V a0 = some (.inr (1, fs29))) → (jokO V (jFs 1) fs29) → (V a1 = some (.inr (1, fs_a1))) → (jokO V (jFs 1) fs_a1) → (V s = some (.inl (6, ln, .inl F6n34))) → (V xx = some (.inl (34, ln + 1, .inl F34n34))) → (V yy = some (.inl (35, ln + 1, .inl F35n34))) → (V zz = some (.inl (36, ln + 1, .inl F36n34))) → (V sb = some (.inl (6, lb, .inl SB))) → (V xb = some (.inl (34, lb + 1, .inl XB))) → (V yb = some (.inl (35, lb + 1, .inl YB))) → (V zb = some (.inl (36, lb + 1, .inl ZB))) → (0 ≤ i2n34.toInt ∧ i2n34.toInt ≤ nb.toInt + 1) → (∀ j : Nat, (j : Int) < i2n34.toInt → (j : Int) < nb.toInt → F6n34 j = SB j) → (∀ j : Nat, (j : Int) < i2n34.toInt → F34n34 j = XB j) → (∀ j : Nat, (j : Int) < i2n34.toInt → F35n34 j = YB j) → (∀ j : Nat, (j : Int) < i2n34.toInt → F36n34 j = ZB j) → (nb.toInt + 1 - i2n34.toInt).toNat < N → J tS mX3_become d 34 [some (.ref a0), some (.ref a1), some (.int i2n34)] [] V 0 0 (fun r V => (jPost [.inr 1, .inl 6, .inl 34, .inl 35, .inl 36] V0 rV) r V ∧ (∃ S2 : Nat → Int32, V s = some (.inl (6, ln, .inl S2)) ∧ ∀ j : Nat, (j : Int) < nb.toInt → S2 j = SB j) ∧ (∃ X2 : Nat → Int32, V xx = some (.inl (34, ln + 1, .inl X2)) ∧ ∀ j : Nat, (j : Int) ≤ nb.toInt → X2 j = XB j) ∧ (∃ Y2 : Nat → Int32, V yy = some (.inl (35, ln + 1, .inl Y2)) ∧ ∀ j : Nat, (j : Int) ≤ nb.toInt → Y2 j = YB j) ∧ (∃ Z2 : Nat → Int32, V zz = some (.inl (36, ln + 1, .inl Z2)) ∧ ∀ j : Nat, (j : Int) ≤ nb.toInt → Z2 j = ZB j) ∧ jfp [a0, s, xx, yy, zz] V0 V ∧ (∃ M2 : Int32, jfI V a0 1 0 M2 ∧ (M2.toInt = M.toInt)) ∧ (∃ g2 : Int32, jfI V a0 1 5 g2 ∧ (g2.toInt = gb.toInt)) ∧ (∃ n2 : Int32, jfI V a0 1 6 n2 ∧ (n2.toInt = nb.toInt))) := by
      intro N
      induction N with
      | zero => intro V i2n34 F6n34 F34n34 F35n34 F36n34 hW he ha0 ha1 hb_s hb_xx hb_yy hb_zz hb_sb hb_xb hb_yb hb_zb hfp hO29 hK29 hO_a1 hK_a1 hAF6n34 hAF34n34 hAF35n34 hAF36n34 ha_SB ha_XB ha_YB ha_ZB hi2 hs hxv hyv hzv hm; exact absurd hm (Nat.not_lt_zero _)
      | succ N ih =>
        intro V i2n34 F6n34 F34n34 F35n34 F36n34 hW he ha0 ha1 hb_s hb_xx hb_yy hb_zz hb_sb hb_xb hb_yb hb_zb hfp hO29 hK29 hO_a1 hK_a1 hAF6n34 hAF34n34 hAF35n34 hAF36n34 ha_SB ha_XB ha_YB ha_ZB hi2 hs hxv hyv hzv hm
        have ih34 := ih
        have hri2 := j_rng i2n34
        obtain ⟨hNF6n34, hvF6n34⟩ := WT_rngI (r := ((-2147483648), 2147483647)) hW id rfl hAF6n34
        clear hNF6n34
        obtain ⟨hNF34n34, hvF34n34⟩ := WT_rngI (r := ((-2147483648), 2147483647)) hW id rfl hAF34n34
        clear hNF34n34
        obtain ⟨hNF35n34, hvF35n34⟩ := WT_rngI (r := ((-2147483648), 2147483647)) hW id rfl hAF35n34
        clear hNF35n34
        obtain ⟨hNF36n34, hvF36n34⟩ := WT_rngI (r := ((-2147483648), 2147483647)) hW id rfl hAF36n34
        clear hNF36n34
        refine J_iload_n dX3_become_34 rfl ?_
        refine J_aload_n dX3_become_35 rfl ?_
        refine J_get jf_X3_15 dX3_become_36 hO29 hS29 ?_
        refine Jz_icmp_gt (tgt := 112) jEq.rf jEq.rf dX3_become_39 (by decide) (fun c39 => ?_) (fun c39 => ?_)
        · exact J_ret (r := none) dX3_become_112 ⟨rfl, rfl⟩ (⟨⟨hW, he, rfl⟩, ⟨F6n34, hAF6n34, fun j hj => hs j (by omega) hj⟩, ⟨F34n34, hAF34n34, fun j hj => hxv j (by omega)⟩, ⟨F35n34, hAF35n34, fun j hj => hyv j (by omega)⟩, ⟨F36n34, hAF36n34, fun j hj => hzv j (by omega)⟩, hfp, ⟨_, ⟨_, hO29, hF29_0⟩, (by omega)⟩, ⟨_, ⟨_, hO29, hF29_5⟩, (by omega)⟩, ⟨_, ⟨_, hO29, hS29⟩, (by omega)⟩⟩)
        · refine J_aload_n dX3_become_42 rfl ?_
          refine J_get jf_X3_30 dX3_become_43 hO29 hF29_1 ?_
          refine J_iload_n dX3_become_46 rfl ?_
          refine J_aload_n dX3_become_47 rfl ?_
          refine J_get jf_X3_30 dX3_become_48 hO_a1 hF_sb ?_
          refine J_iload_n dX3_become_51 rfl ?_
          refine J_callSN2 moX6_cell (host := "WalkGrounds") (List.mem_of_getElem? (i := 0) rfl) jw_st_X6_cell dX3_become_52 (w_X6_cell_q (d - 1) _ sb i2n34 ha_SB (WT_rngI (r := (-2147483648, 2147483647)) hW id rfl ha_SB).1 rfl (by omega)) (by omega) (Nat.zero_le _) (Nat.zero_le _) (Nat.le_of_ble_eq_true rfl) (fun r52 V52 h52 => ?_)
          obtain ⟨⟨y52, rfl, hq52⟩, hE52⟩ := h52
          have hE52 := hE52.symm
          subst hE52
          · refine J_callSN3 moX6_put (host := "WalkGrounds") (List.mem_of_getElem? (i := 1) rfl) jw_st_X6_put dX3_become_55 (w_X6_put_z (d - 1) _ s i2n34 y52 hW hAF6n34 (WT_rngI (r := (-2147483648, 2147483647)) hW id rfl hAF6n34).1 rfl rfl (by omega)) (by omega) (Nat.zero_le _) (Nat.zero_le _) (Nat.le_of_ble_eq_true rfl) (fun r55 V55 h55 => ?_)
            obtain ⟨rfl, hW, hx55, hB55, G55, hA55, hp55, ho55⟩ := h55
            obtain ⟨hN55, hv55⟩ := WT_rngI (r := (-2147483648, 2147483647)) hW id rfl hA55
            clear hN55
            have he := he.trans (hx55.sub (jsub_of rfl))
            have hfp := hfp.trans (jfp.one hB55 (List.mem_cons_of_mem _ List.mem_cons_self))
            have ha0 := ha0.mono hx55.1
            have ha1 := ha1.mono hx55.1
            have hb_s := hb_s.mono hx55.1
            have hb_xx := hb_xx.mono hx55.1
            have hb_yy := hb_yy.mono hx55.1
            have hb_zz := hb_zz.mono hx55.1
            have hb_sb := hb_sb.mono hx55.1
            have hb_xb := hb_xb.mono hx55.1
            have hb_yb := hb_yb.mono hx55.1
            have hb_zb := hb_zb.mono hx55.1
            have hO29 := hx55.2 _ _ hO29 (jnot_of rfl)
            have hK29 := hK29.mono hx55.1
            have hO_a1 := hx55.2 _ _ hO_a1 (jnot_of rfl)
            have hK_a1 := hK_a1.mono hx55.1
            have hAF34n34 := hx55.2 _ _ hAF34n34 (jnot_of rfl)
            have hAF35n34 := hx55.2 _ _ hAF35n34 (jnot_of rfl)
            have hAF36n34 := hx55.2 _ _ hAF36n34 (jnot_of rfl)
            have ha_SB := (hB55 sb hs1).trans ha_SB
            have ha_XB := hx55.2 _ _ ha_XB (jnot_of rfl)
            have ha_YB := hx55.2 _ _ ha_YB (jnot_of rfl)
            have ha_ZB := hx55.2 _ _ ha_ZB (jnot_of rfl)
            · refine J_aload_n dX3_become_58 rfl ?_
              refine J_get jf_X3_34 dX3_become_59 hO29 hF29_2 ?_
              refine J_iload_n dX3_become_62 rfl ?_
              refine J_aload_n dX3_become_63 rfl ?_
              refine J_get jf_X3_34 dX3_become_64 hO_a1 hF_xb ?_
              refine J_iload_n dX3_become_67 rfl ?_
              refine J_callSN2 moX6_cell (host := "WalkGrounds") (List.mem_of_getElem? (i := 0) rfl) jw_st_X6_cell dX3_become_68 (w_X6_cell_x (d - 1) _ xb i2n34 ha_XB (WT_rngI (r := (-2147483648, 2147483647)) hW id rfl ha_XB).1 rfl (by omega) (by omega)) (by omega) (Nat.zero_le _) (Nat.zero_le _) (Nat.le_of_ble_eq_true rfl) (fun r68 V68 h68 => ?_)
              obtain ⟨⟨y68, rfl, hf68⟩, hE68⟩ := h68
              have hE68 := hE68.symm
              subst hE68
              have hz68 : jEq y68.toInt (XB (i2n34.toInt).toNat).toInt := by rw [← hf68]; rfl
              clear hf68
              · refine J_callSN3 moX6_put (host := "WalkGrounds") (List.mem_of_getElem? (i := 1) rfl) jw_st_X6_put dX3_become_71 (w_X6_put_z (d - 1) _ xx i2n34 y68 hW hAF34n34 (WT_rngI (r := (-2147483648, 2147483647)) hW id rfl hAF34n34).1 rfl rfl (by omega)) (by omega) (Nat.zero_le _) (Nat.zero_le _) (Nat.le_of_ble_eq_true rfl) (fun r71 V71 h71 => ?_)
                obtain ⟨rfl, hW, hx71, hB71, G71, hA71, hp71, ho71⟩ := h71
                obtain ⟨hN71, hv71⟩ := WT_rngI (r := (-2147483648, 2147483647)) hW id rfl hA71
                clear hN71
                have he := he.trans (hx71.sub (jsub_of rfl))
                have hfp := hfp.trans (jfp.one hB71 (List.mem_cons_of_mem _ (List.mem_cons_of_mem _ List.mem_cons_self)))
                have ha0 := ha0.mono hx71.1
                have ha1 := ha1.mono hx71.1
                have hb_s := hb_s.mono hx71.1
                have hb_xx := hb_xx.mono hx71.1
                have hb_yy := hb_yy.mono hx71.1
                have hb_zz := hb_zz.mono hx71.1
                have hb_sb := hb_sb.mono hx71.1
                have hb_xb := hb_xb.mono hx71.1
                have hb_yb := hb_yb.mono hx71.1
                have hb_zb := hb_zb.mono hx71.1
                have hO29 := hx71.2 _ _ hO29 (jnot_of rfl)
                have hK29 := hK29.mono hx71.1
                have hO_a1 := hx71.2 _ _ hO_a1 (jnot_of rfl)
                have hK_a1 := hK_a1.mono hx71.1
                have hAF35n34 := hx71.2 _ _ hAF35n34 (jnot_of rfl)
                have hAF36n34 := hx71.2 _ _ hAF36n34 (jnot_of rfl)
                have ha_SB := hx71.2 _ _ ha_SB (jnot_of rfl)
                have ha_XB := (hB71 xb hs2).trans ha_XB
                have ha_YB := hx71.2 _ _ ha_YB (jnot_of rfl)
                have ha_ZB := hx71.2 _ _ ha_ZB (jnot_of rfl)
                have hA55 := hx71.2 _ _ hA55 (jnot_of rfl)
                · refine J_aload_n dX3_become_74 rfl ?_
                  refine J_get jf_X3_37 dX3_become_75 hO29 hF29_3 ?_
                  refine J_iload_n dX3_become_78 rfl ?_
                  refine J_aload_n dX3_become_79 rfl ?_
                  refine J_get jf_X3_37 dX3_become_80 hO_a1 hF_yb ?_
                  refine J_iload_n dX3_become_83 rfl ?_
                  refine J_callSN2 moX6_cell (host := "WalkGrounds") (List.mem_of_getElem? (i := 0) rfl) jw_st_X6_cell dX3_become_84 (w_X6_cell_x (d - 1) _ yb i2n34 ha_YB (WT_rngI (r := (-2147483648, 2147483647)) hW id rfl ha_YB).1 rfl (by omega) (by omega)) (by omega) (Nat.zero_le _) (Nat.zero_le _) (Nat.le_of_ble_eq_true rfl) (fun r84 V84 h84 => ?_)
                  obtain ⟨⟨y84, rfl, hf84⟩, hE84⟩ := h84
                  have hE84 := hE84.symm
                  subst hE84
                  have hz84 : jEq y84.toInt (YB (i2n34.toInt).toNat).toInt := by rw [← hf84]; rfl
                  clear hf84
                  · refine J_callSN3 moX6_put (host := "WalkGrounds") (List.mem_of_getElem? (i := 1) rfl) jw_st_X6_put dX3_become_87 (w_X6_put_z (d - 1) _ yy i2n34 y84 hW hAF35n34 (WT_rngI (r := (-2147483648, 2147483647)) hW id rfl hAF35n34).1 rfl rfl (by omega)) (by omega) (Nat.zero_le _) (Nat.zero_le _) (Nat.le_of_ble_eq_true rfl) (fun r87 V87 h87 => ?_)
                    obtain ⟨rfl, hW, hx87, hB87, G87, hA87, hp87, ho87⟩ := h87
                    obtain ⟨hN87, hv87⟩ := WT_rngI (r := (-2147483648, 2147483647)) hW id rfl hA87
                    clear hN87
                    have he := he.trans (hx87.sub (jsub_of rfl))
                    have hfp := hfp.trans (jfp.one hB87 (List.mem_cons_of_mem _ (List.mem_cons_of_mem _ (List.mem_cons_of_mem _ List.mem_cons_self))))
                    have ha0 := ha0.mono hx87.1
                    have ha1 := ha1.mono hx87.1
                    have hb_s := hb_s.mono hx87.1
                    have hb_xx := hb_xx.mono hx87.1
                    have hb_yy := hb_yy.mono hx87.1
                    have hb_zz := hb_zz.mono hx87.1
                    have hb_sb := hb_sb.mono hx87.1
                    have hb_xb := hb_xb.mono hx87.1
                    have hb_yb := hb_yb.mono hx87.1
                    have hb_zb := hb_zb.mono hx87.1
                    have hO29 := hx87.2 _ _ hO29 (jnot_of rfl)
                    have hK29 := hK29.mono hx87.1
                    have hO_a1 := hx87.2 _ _ hO_a1 (jnot_of rfl)
                    have hK_a1 := hK_a1.mono hx87.1
                    have hAF36n34 := hx87.2 _ _ hAF36n34 (jnot_of rfl)
                    have ha_SB := hx87.2 _ _ ha_SB (jnot_of rfl)
                    have ha_XB := hx87.2 _ _ ha_XB (jnot_of rfl)
                    have ha_YB := (hB87 yb hs3).trans ha_YB
                    have ha_ZB := hx87.2 _ _ ha_ZB (jnot_of rfl)
                    have hA55 := hx87.2 _ _ hA55 (jnot_of rfl)
                    have hA71 := hx87.2 _ _ hA71 (jnot_of rfl)
                    · refine J_aload_n dX3_become_90 rfl ?_
                      refine J_get jf_X3_40 dX3_become_91 hO29 hF29_4 ?_
                      refine J_iload_n dX3_become_94 rfl ?_
                      refine J_aload_n dX3_become_95 rfl ?_
                      refine J_get jf_X3_40 dX3_become_96 hO_a1 hF_zb ?_
                      refine J_iload_n dX3_become_99 rfl ?_
                      refine J_callSN2 moX6_cell (host := "WalkGrounds") (List.mem_of_getElem? (i := 0) rfl) jw_st_X6_cell dX3_become_100 (w_X6_cell_x (d - 1) _ zb i2n34 ha_ZB (WT_rngI (r := (-2147483648, 2147483647)) hW id rfl ha_ZB).1 rfl (by omega) (by omega)) (by omega) (Nat.zero_le _) (Nat.zero_le _) (Nat.le_of_ble_eq_true rfl) (fun r100 V100 h100 => ?_)
                      obtain ⟨⟨y100, rfl, hf100⟩, hE100⟩ := h100
                      have hE100 := hE100.symm
                      subst hE100
                      have hz100 : jEq y100.toInt (ZB (i2n34.toInt).toNat).toInt := by rw [← hf100]; rfl
                      clear hf100
                      · refine J_callSN3 moX6_put (host := "WalkGrounds") (List.mem_of_getElem? (i := 1) rfl) jw_st_X6_put dX3_become_103 (w_X6_put_z (d - 1) _ zz i2n34 y100 hW hAF36n34 (WT_rngI (r := (-2147483648, 2147483647)) hW id rfl hAF36n34).1 rfl rfl (by omega)) (by omega) (Nat.zero_le _) (Nat.zero_le _) (Nat.le_of_ble_eq_true rfl) (fun r103 V103 h103 => ?_)
                        obtain ⟨rfl, hW, hx103, hB103, G103, hA103, hp103, ho103⟩ := h103
                        obtain ⟨hN103, hv103⟩ := WT_rngI (r := (-2147483648, 2147483647)) hW id rfl hA103
                        clear hN103
                        have he := he.trans (hx103.sub (jsub_of rfl))
                        have hfp := hfp.trans (jfp.one hB103 (List.mem_cons_of_mem _ (List.mem_cons_of_mem _ (List.mem_cons_of_mem _ (List.mem_cons_of_mem _ List.mem_cons_self)))))
                        have ha0 := ha0.mono hx103.1
                        have ha1 := ha1.mono hx103.1
                        have hb_s := hb_s.mono hx103.1
                        have hb_xx := hb_xx.mono hx103.1
                        have hb_yy := hb_yy.mono hx103.1
                        have hb_zz := hb_zz.mono hx103.1
                        have hb_sb := hb_sb.mono hx103.1
                        have hb_xb := hb_xb.mono hx103.1
                        have hb_yb := hb_yb.mono hx103.1
                        have hb_zb := hb_zb.mono hx103.1
                        have hO29 := hx103.2 _ _ hO29 (jnot_of rfl)
                        have hK29 := hK29.mono hx103.1
                        have hO_a1 := hx103.2 _ _ hO_a1 (jnot_of rfl)
                        have hK_a1 := hK_a1.mono hx103.1
                        have ha_SB := hx103.2 _ _ ha_SB (jnot_of rfl)
                        have ha_XB := hx103.2 _ _ ha_XB (jnot_of rfl)
                        have ha_YB := hx103.2 _ _ ha_YB (jnot_of rfl)
                        have ha_ZB := (hB103 zb hs4).trans ha_ZB
                        have hA55 := hx103.2 _ _ hA55 (jnot_of rfl)
                        have hA71 := hx103.2 _ _ hA71 (jnot_of rfl)
                        have hA87 := hx103.2 _ _ hA87 (jnot_of rfl)
                        · refine Jz_iinc 1 dX3_become_106 rfl rfl (by decide) jEq.rf (by decide) (by omega) (by omega) (fun y106 he106 => ?_)
                          refine J_goto (tgt := 34) dX3_become_109 (by decide) ?_
                          refine J.mask [true, true, true] ?_
                          exact ih34 _ y106 G55 G71 G87 G103 hW he ha0 ha1 hb_s hb_xx hb_yy hb_zz hb_sb hb_xb hb_yb hb_zb hfp hO29 hK29 hO_a1 hK_a1 hA55 hA71 hA87 hA103 ha_SB ha_XB ha_YB ha_ZB (by (try simp only [he106.eq, true_and, and_true]) <;> omega) (fun j hj hj2 => by rw [he106.eq] at hj; by_cases h9 : (j : Int) = i2n34.toInt; (have e : j = i2n34.toInt.toNat := by omega); subst e; rw [hp55 (by omega)]; exact (hq52 (by omega)).symm; rw [ho55 j (by omega)]; exact hs j (by omega) hj2) (fun j hj => by rw [he106.eq] at hj; by_cases h9 : (j : Int) = i2n34.toInt; (have e : j = i2n34.toInt.toNat := by omega); subst e; rw [hp71 (by omega)]; exact (jI_inj.mp hz68.eq); rw [ho71 j (by omega)]; exact hxv j (by omega)) (fun j hj => by rw [he106.eq] at hj; by_cases h9 : (j : Int) = i2n34.toInt; (have e : j = i2n34.toInt.toNat := by omega); subst e; rw [hp87 (by omega)]; exact (jI_inj.mp hz84.eq); rw [ho87 j (by omega)]; exact hyv j (by omega)) (fun j hj => by rw [he106.eq] at hj; by_cases h9 : (j : Int) = i2n34.toInt; (have e : j = i2n34.toInt.toNat := by omega); subst e; rw [hp103 (by omega)]; exact (jI_inj.mp hz100.eq); rw [ho103 j (by omega)]; exact hzv j (by omega)) (by (try simp only [he106.eq, true_and, and_true]) <;> omega)
    refine J.mask [true, true, true] ?_
    exact L34 _ _ y32 S X Y Z hW he ha0 ha1 hb_s hb_xx hb_yy hb_zz hb_sb hb_xb hb_yb hb_zb hfp hO29 hK29 hO_a1 hK_a1 ha_S ha_X ha_Y ha_Z ha_SB ha_XB ha_YB ha_ZB (by (try simp only [he32.eq, true_and, and_true]) <;> omega) (fun j hj => by rw [he32.eq] at hj; omega) (fun j hj => by rw [he32.eq] at hj; omega) (fun j hj => by rw [he32.eq] at hj; omega) (fun j hj => by rw [he32.eq] at hj; omega) (Nat.lt_succ_self _)
  · exact False.elim (by omega)
set_option maxRecDepth 100000 in
set_option maxHeartbeats 8000000 in
theorem w_X3_direction_z {tS : jTS} (d : Nat) (V0 : jH) {ln : Nat} (a0 : Nat) (x1 : Int32) (s : Nat) (S : Nat → Int32) (hd : 1 ≤ d) (hW : WT V0) (ha0 : jis V0 (.inr 1) a0) (hr_s : jfR V0 a0 1 1 s) (ha_S : V0 s = some (.inl (6, ln, .inl S))) (hp0 : 0 ≤ x1.toInt) (hp1 : x1.toInt < (ln : Int)) (hp2 : (ln : Int) ≤ 120) : jTot tS mX3_direction d [.ref a0, .int x1] V0 0 0 (fun r V => (fun r _ => ∃ y : Int32, r = some (.int y) ∧ ((-2147483648) ≤ y.toInt) ∧ (y.toInt ≤ 2147483647) ∧ (y.toInt = (S x1.toInt.toNat).toInt)) r V ∧ V = V0) := by
  refine jTot.of_J [some (.ref a0), some (.int x1)] moX3_direction (Nat.le_of_ble_eq_true rfl) rfl ?_
  have hrx1 := j_rng x1
  have he : jeff [] V0 V0 := jeff.refl _ _
  obtain ⟨fs_a0, hO_a0, hK_a0⟩ := WT_obj hW id ha0
  have hF_s := hr_s.get hO_a0
  obtain ⟨w_s, hFq_s, b_s, hbq_s, hb_s⟩ := hK_a0.2 1 (.inr (some (.inl 6))) rfl
  cases hF_s.symm.trans (hFq_s.trans (congrArg some hbq_s))
  obtain ⟨hN_S, hv_S⟩ := WT_rngI (r := ((-2147483648), 2147483647)) hW id rfl ha_S
  clear hN_S
  refine J_aload_n dX3_direction_0 rfl ?_
  refine J_get jf_X3_30 dX3_direction_1 hO_a0 hF_s ?_
  refine J_iload_n dX3_direction_4 rfl ?_
  refine J_callSN2 moX6_cell (host := "WalkGrounds") (List.mem_of_getElem? (i := 0) rfl) jw_st_X6_cell dX3_direction_5 (w_X6_cell_x (d - 1) _ s x1 ha_S (WT_rngI (r := (-2147483648, 2147483647)) hW id rfl ha_S).1 rfl (by omega) (by omega)) (by omega) (Nat.zero_le _) (Nat.zero_le _) (Nat.le_of_ble_eq_true rfl) (fun r5 V5 h5 => ?_)
  obtain ⟨⟨y5, rfl, hf5⟩, hE5⟩ := h5
  have hE5 := hE5.symm
  subst hE5
  have hz5 : jEq y5.toInt (S (x1.toInt).toNat).toInt := by rw [← hf5]; rfl
  clear hf5
  · exact J_ret (r := some (.int _)) dX3_direction_8 ⟨rfl, _, rfl, rfl⟩ (⟨⟨_, rfl, (j_rng _).1, (j_rng _).2, (by (try simp only [hz5.eq, true_and, and_true]) <;> omega)⟩, rfl⟩)
set_option maxRecDepth 100000 in
set_option maxHeartbeats 8000000 in
theorem w_X6_step_out {tS : jTS} (d : Nat) (V0 : jH) (a0 : Nat) (x1 : Int32) (x2 : Int32) (k : Int32) (md : Nat) (hd : 4 ≤ d) (hW : WT V0) (ha0 : jis V0 (.inr 4) a0) (hf_k : jfI V0 a0 4 1 k) (hr_md : jfR V0 a0 4 0 md) (hp0 : ¬ (0 ≤ x1.toInt ∧ x1.toInt < k.toInt)) : jTot tS mX6_step d [.ref a0, .int x1, .int x2] V0 0 0 (fun r V => (fun r _ => ∃ y : Int32, r = some (.int y) ∧ ((-2147483648) ≤ y.toInt) ∧ (y.toInt ≤ 2147483647) ∧ (y.toInt = -2)) r V ∧ V = V0) := by
  refine jTot.of_J [some (.ref a0), some (.int x1), some (.int x2), none] moX6_step (Nat.le_of_ble_eq_true rfl) rfl ?_
  have hrx1 := j_rng x1
  have hrx2 := j_rng x2
  have he : jeff [] V0 V0 := jeff.refl _ _
  obtain ⟨fs_a0, hO_a0, hK_a0⟩ := WT_obj hW id ha0
  have hF_k := hf_k.get hO_a0
  have hrk : 0 ≤ k.toInt ∧ k.toInt ≤ 16 := jok_rngI hK_a0 rfl hF_k
  have hF_md := hr_md.get hO_a0
  obtain ⟨w_md, hFq_md, b_md, hbq_md, hb_md⟩ := hK_a0.2 0 (.inr (some (.inl 4))) rfl
  cases hF_md.symm.trans (hFq_md.trans (congrArg some hbq_md))
  refine J_aload_n dX6_step_0 rfl ?_
  refine J_iload_n dX6_step_1 rfl ?_
  refine Jw_callV1 (q9 := (RX6, TX6, 7)) moX6_rowOf jw_ml_X6_55 jw_im_X6_rowOf jw_se_X6_rowOf ha0 rfl rfl dX6_step_2 (w_X6_rowOf_out (d - 1) _ a0 x1 hO_a0 hF_k (by omega)) (by omega) (Nat.zero_le _) (Nat.zero_le _) (Nat.le_of_ble_eq_true rfl) (fun r2 V2 h2 => ?_)
  obtain ⟨rfl, hE2⟩ := h2
  have hE2 := hE2.symm
  subst hE2
  · refine J_astore_nN dX6_step_5 rfl (by decide) ?_
    refine J_aload_nN dX6_step_6 rfl ?_
    refine J_ifnullN (tgt := 21) dX6_step_7 (by decide) ?_
    refine Jz_bipush (-2) dX6_step_21 (by decide) (fun y21 he21 => ?_)
    exact J_ret (r := some (.int _)) dX6_step_23 ⟨rfl, _, rfl, rfl⟩ (⟨⟨_, rfl, (j_rng _).1, (j_rng _).2, (by (try simp only [he21.eq, true_and, and_true]) <;> omega)⟩, rfl⟩)
set_option maxRecDepth 100000 in
set_option maxHeartbeats 8000000 in
theorem w_X6_step_bad {tS : jTS} (d : Nat) (V0 : jH) (a0 : Nat) (x1 : Int32) (x2 : Int32) (k : Int32) (md : Nat) (f : Nat → Option Nat) (ro : Nat) (M : Int32) (g : Int32) (n : Int32) (s : Nat) (xx : Nat) (yy : Nat) (zz : Nat) (S : Nat → Int32) (X : Nat → Int32) (Y : Nat → Int32) (Z : Nat → Int32) (hd : 4 ≤ d) (hW : WT V0) (ha0 : jis V0 (.inr 4) a0) (hf_k : jfI V0 a0 4 1 k) (hr_md : jfR V0 a0 4 0 md) (ha_f : V0 md = some (.inl (4, 16, .inr (.inr (.inr (.inr f)))))) (hf_M : jfI V0 ro 1 0 M) (hf_g : jfI V0 ro 1 5 g) (hf_n : jfI V0 ro 1 6 n) (hr_s : jfR V0 ro 1 1 s) (hr_xx : jfR V0 ro 1 2 xx) (hr_yy : jfR V0 ro 1 3 yy) (hr_zz : jfR V0 ro 1 4 zz) (ha_S : V0 s = some (.inl (6, 60, .inl S))) (ha_X : V0 xx = some (.inl (34, 61, .inl X))) (ha_Y : V0 yy = some (.inl (35, 61, .inl Y))) (ha_Z : V0 zz = some (.inl (36, 61, .inl Z))) (hm_ro : M.toInt = 60) (hn_ro : n.toInt ≤ 60) (hfo : f x1.toInt.toNat = some ro) (hp0 : 0 ≤ x1.toInt) (hp1 : x1.toInt < k.toInt) (hp2 : 0 ≤ g.toInt) (hp3 : g.toInt ≤ 3) (hp4 : ¬ (0 ≤ x2.toInt ∧ x2.toInt < jdir g.toInt)) : jTot tS mX6_step d [.ref a0, .int x1, .int x2] V0 0 0 (fun r V => (fun r _ => ∃ y : Int32, r = some (.int y) ∧ ((-2147483648) ≤ y.toInt) ∧ (y.toInt ≤ 2147483647) ∧ (y.toInt = -2)) r V ∧ V = V0) := by
  refine jTot.of_J [some (.ref a0), some (.int x1), some (.int x2), none] moX6_step (Nat.le_of_ble_eq_true rfl) rfl ?_
  have hrx1 := j_rng x1
  have hrx2 := j_rng x2
  have he : jeff [] V0 V0 := jeff.refl _ _
  obtain ⟨fs_a0, hO_a0, hK_a0⟩ := WT_obj hW id ha0
  have hF_k := hf_k.get hO_a0
  have hrk : 0 ≤ k.toInt ∧ k.toInt ≤ 16 := jok_rngI hK_a0 rfl hF_k
  have hF_md := hr_md.get hO_a0
  obtain ⟨w_md, hFq_md, b_md, hbq_md, hb_md⟩ := hK_a0.2 0 (.inr (some (.inl 4))) rfl
  cases hF_md.symm.trans (hFq_md.trans (congrArg some hbq_md))
  have hb_ro : jis V0 (.inr 1) ro := by obtain ⟨q1, q2, q3⟩ := hf_M; exact ⟨_, q2, rfl⟩
  obtain ⟨fs_ro, hO_ro, hK_ro⟩ := WT_obj hW id hb_ro
  have hF_M := hf_M.get hO_ro
  have hrM : 0 ≤ M.toInt ∧ M.toInt ≤ 120 := jok_rngI hK_ro rfl hF_M
  have hF_g := hf_g.get hO_ro
  have hrg : (-2147483648) ≤ g.toInt ∧ g.toInt ≤ 2147483647 := jok_rngI hK_ro rfl hF_g
  have hF_n := hf_n.get hO_ro
  have hrn : 0 ≤ n.toInt ∧ n.toInt ≤ 120 := jok_rngI hK_ro rfl hF_n
  have hF_s := hr_s.get hO_ro
  have hb_s : jis V0 (.inl 6) s := ⟨_, ha_S, rfl⟩
  obtain ⟨hN_S, hv_S⟩ := WT_rngI (r := (-2147483648, 2147483647)) hW id rfl ha_S
  clear hN_S
  have hF_xx := hr_xx.get hO_ro
  have hb_xx : jis V0 (.inl 34) xx := ⟨_, ha_X, rfl⟩
  obtain ⟨hN_X, hv_X⟩ := WT_rngI (r := (-2147483648, 2147483647)) hW id rfl ha_X
  clear hN_X
  have hF_yy := hr_yy.get hO_ro
  have hb_yy : jis V0 (.inl 35) yy := ⟨_, ha_Y, rfl⟩
  obtain ⟨hN_Y, hv_Y⟩ := WT_rngI (r := (-2147483648, 2147483647)) hW id rfl ha_Y
  clear hN_Y
  have hF_zz := hr_zz.get hO_ro
  have hb_zz : jis V0 (.inl 36) zz := ⟨_, ha_Z, rfl⟩
  obtain ⟨hN_Z, hv_Z⟩ := WT_rngI (r := (-2147483648, 2147483647)) hW id rfl ha_Z
  clear hN_Z
  refine J_aload_n dX6_step_0 rfl ?_
  refine J_iload_n dX6_step_1 rfl ?_
  refine Jw_callV1 (q9 := (RX6, TX6, 7)) moX6_rowOf jw_ml_X6_55 jw_im_X6_rowOf jw_se_X6_rowOf ha0 rfl rfl dX6_step_2 (w_X6_rowOf_in (d - 1) _ a0 x1 hO_a0 hF_md hF_k ha_f (by omega) (by omega) (by omega) hfo) (by omega) (Nat.zero_le _) (Nat.zero_le _) (Nat.le_of_ble_eq_true rfl) (fun r2 V2 h2 => ?_)
  obtain ⟨rfl, hE2⟩ := h2
  have hE2 := hE2.symm
  subst hE2
  · refine J_astore_n dX6_step_5 rfl (by decide) ?_
    refine J_aload_n dX6_step_6 rfl ?_
    refine J_ifnull dX6_step_7 ?_
    refine J_aload_n dX6_step_10 rfl ?_
    refine J_get jf_X6_59 dX6_step_11 hO_ro hF_g ?_
    refine J_iload_n dX6_step_14 rfl ?_
    refine J_callS2 moX0_isDirection jw_ml_X6_62 jw_st_X0_isDirection dX6_step_15 (w_X0_isDirection_z (d - 1) _ g x2 (by omega)   (by omega) (by omega)) (by omega) (Nat.zero_le _) (Nat.zero_le _) (Nat.le_of_ble_eq_true rfl) (fun r15 V15 h15 => ?_)
    obtain ⟨⟨y15, rfl, hl15, hh15, hP15_0⟩, hE15⟩ := h15
    have hE15 := hE15.symm
    subst hE15
    refine Jz_if_ne (tgt := 24) jEq.rf dX6_step_18 (by decide) (fun c18 => ?_) (fun c18 => ?_)
    · exact False.elim (by omega)
    · refine Jz_bipush (-2) dX6_step_21 (by decide) (fun y21 he21 => ?_)
      exact J_ret (r := some (.int _)) dX6_step_23 ⟨rfl, _, rfl, rfl⟩ (⟨⟨_, rfl, (j_rng _).1, (j_rng _).2, (by (try simp only [he21.eq, true_and, and_true]) <;> omega)⟩, rfl⟩)
set_option maxRecDepth 100000 in
set_option maxHeartbeats 8000000 in
theorem w_X6_step_no {tS : jTS} (d : Nat) (V0 : jH) (a0 : Nat) (x1 : Int32) (x2 : Int32) (k : Int32) (md : Nat) (f : Nat → Option Nat) (ro : Nat) (M : Int32) (g : Int32) (n : Int32) (s : Nat) (xx : Nat) (yy : Nat) (zz : Nat) (S : Nat → Int32) (X : Nat → Int32) (Y : Nat → Int32) (Z : Nat → Int32) (hd : 4 ≤ d) (hW : WT V0) (ha0 : jis V0 (.inr 4) a0) (hf_k : jfI V0 a0 4 1 k) (hr_md : jfR V0 a0 4 0 md) (ha_f : V0 md = some (.inl (4, 16, .inr (.inr (.inr (.inr f)))))) (hf_M : jfI V0 ro 1 0 M) (hf_g : jfI V0 ro 1 5 g) (hf_n : jfI V0 ro 1 6 n) (hr_s : jfR V0 ro 1 1 s) (hr_xx : jfR V0 ro 1 2 xx) (hr_yy : jfR V0 ro 1 3 yy) (hr_zz : jfR V0 ro 1 4 zz) (ha_S : V0 s = some (.inl (6, 60, .inl S))) (ha_X : V0 xx = some (.inl (34, 61, .inl X))) (ha_Y : V0 yy = some (.inl (35, 61, .inl Y))) (ha_Z : V0 zz = some (.inl (36, 61, .inl Z))) (hm_ro : M.toInt = 60) (hn_ro : n.toInt ≤ 60) (hfo : f x1.toInt.toNat = some ro) (hp0 : 0 ≤ x1.toInt) (hp1 : x1.toInt < k.toInt) (hp2 : 0 ≤ g.toInt) (hp3 : g.toInt ≤ 3) (hp4 : 0 ≤ x2.toInt) (hp5 : x2.toInt < jdir g.toInt) (hp6 : jrv g.toInt (fun q => (S q).toInt) n.toInt.toNat X Y Z) (hp7 : jav g.toInt (jTs (fun q => (S q).toInt) n.toInt.toNat x2.toInt) n.toInt.toNat) (hp8 : ¬ jav g.toInt (jTs (fun q => (S q).toInt) n.toInt.toNat x2.toInt) (n.toInt.toNat + 1)) : jTot tS mX6_step d [.ref a0, .int x1, .int x2] V0 0 0 (fun r V => (fun r _ => ∃ y : Int32, r = some (.int y) ∧ ((-2147483648) ≤ y.toInt) ∧ (y.toInt ≤ 2147483647) ∧ (y.toInt = -3)) r V ∧ V = V0) := by
  refine jTot.of_J [some (.ref a0), some (.int x1), some (.int x2), none] moX6_step (Nat.le_of_ble_eq_true rfl) rfl ?_
  have hrx1 := j_rng x1
  have hrx2 := j_rng x2
  have he : jeff [] V0 V0 := jeff.refl _ _
  obtain ⟨fs_a0, hO_a0, hK_a0⟩ := WT_obj hW id ha0
  have hF_k := hf_k.get hO_a0
  have hrk : 0 ≤ k.toInt ∧ k.toInt ≤ 16 := jok_rngI hK_a0 rfl hF_k
  have hF_md := hr_md.get hO_a0
  obtain ⟨w_md, hFq_md, b_md, hbq_md, hb_md⟩ := hK_a0.2 0 (.inr (some (.inl 4))) rfl
  cases hF_md.symm.trans (hFq_md.trans (congrArg some hbq_md))
  have hb_ro : jis V0 (.inr 1) ro := by obtain ⟨q1, q2, q3⟩ := hf_M; exact ⟨_, q2, rfl⟩
  obtain ⟨fs_ro, hO_ro, hK_ro⟩ := WT_obj hW id hb_ro
  have hF_M := hf_M.get hO_ro
  have hrM : 0 ≤ M.toInt ∧ M.toInt ≤ 120 := jok_rngI hK_ro rfl hF_M
  have hF_g := hf_g.get hO_ro
  have hrg : (-2147483648) ≤ g.toInt ∧ g.toInt ≤ 2147483647 := jok_rngI hK_ro rfl hF_g
  have hF_n := hf_n.get hO_ro
  have hrn : 0 ≤ n.toInt ∧ n.toInt ≤ 120 := jok_rngI hK_ro rfl hF_n
  have hF_s := hr_s.get hO_ro
  have hb_s : jis V0 (.inl 6) s := ⟨_, ha_S, rfl⟩
  obtain ⟨hN_S, hv_S⟩ := WT_rngI (r := (-2147483648, 2147483647)) hW id rfl ha_S
  clear hN_S
  have hF_xx := hr_xx.get hO_ro
  have hb_xx : jis V0 (.inl 34) xx := ⟨_, ha_X, rfl⟩
  obtain ⟨hN_X, hv_X⟩ := WT_rngI (r := (-2147483648, 2147483647)) hW id rfl ha_X
  clear hN_X
  have hF_yy := hr_yy.get hO_ro
  have hb_yy : jis V0 (.inl 35) yy := ⟨_, ha_Y, rfl⟩
  obtain ⟨hN_Y, hv_Y⟩ := WT_rngI (r := (-2147483648, 2147483647)) hW id rfl ha_Y
  clear hN_Y
  have hF_zz := hr_zz.get hO_ro
  have hb_zz : jis V0 (.inl 36) zz := ⟨_, ha_Z, rfl⟩
  obtain ⟨hN_Z, hv_Z⟩ := WT_rngI (r := (-2147483648, 2147483647)) hW id rfl ha_Z
  clear hN_Z
  refine J_aload_n dX6_step_0 rfl ?_
  refine J_iload_n dX6_step_1 rfl ?_
  have hT : (jTs (fun q => (S q).toInt) n.toInt.toNat x2.toInt) n.toInt.toNat = x2.toInt := by unfold jTs; rw [if_neg (by omega)]
  have hjv : jrv g.toInt (jTs (fun q => (S q).toInt) n.toInt.toNat x2.toInt) n.toInt.toNat X Y Z := hp6.congr (fun q hq => by unfold jTs; rw [if_pos hq])
  have hbx := hjv.b n.toInt.toNat (Nat.le_refl _)
  refine Jw_callV1 (q9 := (RX6, TX6, 7)) moX6_rowOf jw_ml_X6_55 jw_im_X6_rowOf jw_se_X6_rowOf ha0 rfl rfl dX6_step_2 (w_X6_rowOf_in (d - 1) _ a0 x1 hO_a0 hF_md hF_k ha_f (by omega) (by omega) (by omega) hfo) (by omega) (Nat.zero_le _) (Nat.zero_le _) (Nat.le_of_ble_eq_true rfl) (fun r2 V2 h2 => ?_)
  obtain ⟨rfl, hE2⟩ := h2
  have hE2 := hE2.symm
  subst hE2
  · refine J_astore_n dX6_step_5 rfl (by decide) ?_
    refine J_aload_n dX6_step_6 rfl ?_
    refine J_ifnull dX6_step_7 ?_
    refine J_aload_n dX6_step_10 rfl ?_
    refine J_get jf_X6_59 dX6_step_11 hO_ro hF_g ?_
    refine J_iload_n dX6_step_14 rfl ?_
    refine J_callS2 moX0_isDirection jw_ml_X6_62 jw_st_X0_isDirection dX6_step_15 (w_X0_isDirection_z (d - 1) _ g x2 (by omega)   (by omega) (by omega)) (by omega) (Nat.zero_le _) (Nat.zero_le _) (Nat.le_of_ble_eq_true rfl) (fun r15 V15 h15 => ?_)
    obtain ⟨⟨y15, rfl, hl15, hh15, hP15_0⟩, hE15⟩ := h15
    have hE15 := hE15.symm
    subst hE15
    refine Jz_if_ne (tgt := 24) jEq.rf dX6_step_18 (by decide) (fun c18 => ?_) (fun c18 => ?_)
    · refine J_aload_n dX6_step_24 rfl ?_
      refine J_iload_n dX6_step_25 rfl ?_
      refine Jw_callV1 (q9 := (RX3, TX3, 7)) moX3_leads jw_ml_X6_66 jw_im_X3_leads jw_se_X3_leads hb_ro rfl rfl dX6_step_26 (w_X3_leads_z (d - 1) _ ro x2 M g n s xx yy zz S X Y Z (by omega) hW  hb_ro ⟨_, hO_ro, hF_M⟩ ⟨_, hO_ro, hF_g⟩ ⟨_, hO_ro, hF_n⟩ ⟨_, hO_ro, hF_s⟩ ⟨_, hO_ro, hF_xx⟩ ⟨_, hO_ro, hF_yy⟩ ⟨_, hO_ro, hF_zz⟩ ha_S ha_X ha_Y ha_Z (by omega) (by omega) (by omega) (by omega) (by omega) (by omega) (by omega) (by omega) (by omega) (by omega) (by omega) (by omega) (by omega)) (by omega) (Nat.zero_le _) (Nat.zero_le _) (Nat.le_of_ble_eq_true rfl) (fun r26 V26 h26 => ?_)
      obtain ⟨⟨y26, rfl, hl26, hh26, hI26_0, hI26_1⟩, hE26⟩ := h26
      have hE26 := hE26.symm
      subst hE26
      refine Jz_if_ne (tgt := 35) jEq.rf dX6_step_29 (by decide) (fun c29 => ?_) (fun c29 => ?_)
      · have q29_0 := hI26_0.of (by omega)
        exact False.elim (by obtain ⟨i, h1, h2⟩ := jav_not hp7 hp8; exact hI26_0.of (by omega) i (by omega) (by rw [← hT]; exact (hjv.next h1).mp h2))
      · have q29_1 := hI26_1.of (by omega)
        refine Jz_bipush (-3) dX6_step_32 (by decide) (fun y32 he32 => ?_)
        exact J_ret (r := some (.int _)) dX6_step_34 ⟨rfl, _, rfl, rfl⟩ (⟨⟨_, rfl, (j_rng _).1, (j_rng _).2, (by (try simp only [he32.eq, true_and, and_true]) <;> omega)⟩, rfl⟩)
    · exact False.elim (by omega)
set_option maxRecDepth 100000 in
set_option maxHeartbeats 8000000 in
theorem w_X6_step_full {tS : jTS} (d : Nat) (V0 : jH) (a0 : Nat) (x1 : Int32) (x2 : Int32) (k : Int32) (md : Nat) (f : Nat → Option Nat) (ro : Nat) (M : Int32) (g : Int32) (n : Int32) (s : Nat) (xx : Nat) (yy : Nat) (zz : Nat) (S : Nat → Int32) (X : Nat → Int32) (Y : Nat → Int32) (Z : Nat → Int32) (hd : 4 ≤ d) (hW : WT V0) (ha0 : jis V0 (.inr 4) a0) (hf_k : jfI V0 a0 4 1 k) (hr_md : jfR V0 a0 4 0 md) (ha_f : V0 md = some (.inl (4, 16, .inr (.inr (.inr (.inr f)))))) (hf_M : jfI V0 ro 1 0 M) (hf_g : jfI V0 ro 1 5 g) (hf_n : jfI V0 ro 1 6 n) (hr_s : jfR V0 ro 1 1 s) (hr_xx : jfR V0 ro 1 2 xx) (hr_yy : jfR V0 ro 1 3 yy) (hr_zz : jfR V0 ro 1 4 zz) (ha_S : V0 s = some (.inl (6, 60, .inl S))) (ha_X : V0 xx = some (.inl (34, 61, .inl X))) (ha_Y : V0 yy = some (.inl (35, 61, .inl Y))) (ha_Z : V0 zz = some (.inl (36, 61, .inl Z))) (hm_ro : M.toInt = 60) (hn_ro : n.toInt ≤ 60) (hfo : f x1.toInt.toNat = some ro) (hp0 : 0 ≤ x1.toInt) (hp1 : x1.toInt < k.toInt) (hp2 : 0 ≤ g.toInt) (hp3 : g.toInt ≤ 3) (hp4 : 0 ≤ x2.toInt) (hp5 : x2.toInt < jdir g.toInt) (hp6 : jrv g.toInt (fun q => (S q).toInt) n.toInt.toNat X Y Z) (hp7 : jav g.toInt (jTs (fun q => (S q).toInt) n.toInt.toNat x2.toInt) (n.toInt.toNat + 1)) (hp8 : n.toInt = 60) : jTot tS mX6_step d [.ref a0, .int x1, .int x2] V0 0 0 (fun r V => (fun r _ => ∃ y : Int32, r = some (.int y) ∧ ((-2147483648) ≤ y.toInt) ∧ (y.toInt ≤ 2147483647) ∧ (y.toInt = -4)) r V ∧ V = V0) := by
  refine jTot.of_J [some (.ref a0), some (.int x1), some (.int x2), none] moX6_step (Nat.le_of_ble_eq_true rfl) rfl ?_
  have hrx1 := j_rng x1
  have hrx2 := j_rng x2
  have he : jeff [] V0 V0 := jeff.refl _ _
  obtain ⟨fs_a0, hO_a0, hK_a0⟩ := WT_obj hW id ha0
  have hF_k := hf_k.get hO_a0
  have hrk : 0 ≤ k.toInt ∧ k.toInt ≤ 16 := jok_rngI hK_a0 rfl hF_k
  have hF_md := hr_md.get hO_a0
  obtain ⟨w_md, hFq_md, b_md, hbq_md, hb_md⟩ := hK_a0.2 0 (.inr (some (.inl 4))) rfl
  cases hF_md.symm.trans (hFq_md.trans (congrArg some hbq_md))
  have hb_ro : jis V0 (.inr 1) ro := by obtain ⟨q1, q2, q3⟩ := hf_M; exact ⟨_, q2, rfl⟩
  obtain ⟨fs_ro, hO_ro, hK_ro⟩ := WT_obj hW id hb_ro
  have hF_M := hf_M.get hO_ro
  have hrM : 0 ≤ M.toInt ∧ M.toInt ≤ 120 := jok_rngI hK_ro rfl hF_M
  have hF_g := hf_g.get hO_ro
  have hrg : (-2147483648) ≤ g.toInt ∧ g.toInt ≤ 2147483647 := jok_rngI hK_ro rfl hF_g
  have hF_n := hf_n.get hO_ro
  have hrn : 0 ≤ n.toInt ∧ n.toInt ≤ 120 := jok_rngI hK_ro rfl hF_n
  have hF_s := hr_s.get hO_ro
  have hb_s : jis V0 (.inl 6) s := ⟨_, ha_S, rfl⟩
  obtain ⟨hN_S, hv_S⟩ := WT_rngI (r := (-2147483648, 2147483647)) hW id rfl ha_S
  clear hN_S
  have hF_xx := hr_xx.get hO_ro
  have hb_xx : jis V0 (.inl 34) xx := ⟨_, ha_X, rfl⟩
  obtain ⟨hN_X, hv_X⟩ := WT_rngI (r := (-2147483648, 2147483647)) hW id rfl ha_X
  clear hN_X
  have hF_yy := hr_yy.get hO_ro
  have hb_yy : jis V0 (.inl 35) yy := ⟨_, ha_Y, rfl⟩
  obtain ⟨hN_Y, hv_Y⟩ := WT_rngI (r := (-2147483648, 2147483647)) hW id rfl ha_Y
  clear hN_Y
  have hF_zz := hr_zz.get hO_ro
  have hb_zz : jis V0 (.inl 36) zz := ⟨_, ha_Z, rfl⟩
  obtain ⟨hN_Z, hv_Z⟩ := WT_rngI (r := (-2147483648, 2147483647)) hW id rfl ha_Z
  clear hN_Z
  refine J_aload_n dX6_step_0 rfl ?_
  refine J_iload_n dX6_step_1 rfl ?_
  have hT : (jTs (fun q => (S q).toInt) n.toInt.toNat x2.toInt) n.toInt.toNat = x2.toInt := by unfold jTs; rw [if_neg (by omega)]
  have hjv : jrv g.toInt (jTs (fun q => (S q).toInt) n.toInt.toNat x2.toInt) n.toInt.toNat X Y Z := hp6.congr (fun q hq => by unfold jTs; rw [if_pos hq])
  have hbx := hjv.b n.toInt.toNat (Nat.le_refl _)
  refine Jw_callV1 (q9 := (RX6, TX6, 7)) moX6_rowOf jw_ml_X6_55 jw_im_X6_rowOf jw_se_X6_rowOf ha0 rfl rfl dX6_step_2 (w_X6_rowOf_in (d - 1) _ a0 x1 hO_a0 hF_md hF_k ha_f (by omega) (by omega) (by omega) hfo) (by omega) (Nat.zero_le _) (Nat.zero_le _) (Nat.le_of_ble_eq_true rfl) (fun r2 V2 h2 => ?_)
  obtain ⟨rfl, hE2⟩ := h2
  have hE2 := hE2.symm
  subst hE2
  · refine J_astore_n dX6_step_5 rfl (by decide) ?_
    refine J_aload_n dX6_step_6 rfl ?_
    refine J_ifnull dX6_step_7 ?_
    refine J_aload_n dX6_step_10 rfl ?_
    refine J_get jf_X6_59 dX6_step_11 hO_ro hF_g ?_
    refine J_iload_n dX6_step_14 rfl ?_
    refine J_callS2 moX0_isDirection jw_ml_X6_62 jw_st_X0_isDirection dX6_step_15 (w_X0_isDirection_z (d - 1) _ g x2 (by omega)   (by omega) (by omega)) (by omega) (Nat.zero_le _) (Nat.zero_le _) (Nat.le_of_ble_eq_true rfl) (fun r15 V15 h15 => ?_)
    obtain ⟨⟨y15, rfl, hl15, hh15, hP15_0⟩, hE15⟩ := h15
    have hE15 := hE15.symm
    subst hE15
    refine Jz_if_ne (tgt := 24) jEq.rf dX6_step_18 (by decide) (fun c18 => ?_) (fun c18 => ?_)
    · refine J_aload_n dX6_step_24 rfl ?_
      refine J_iload_n dX6_step_25 rfl ?_
      refine Jw_callV1 (q9 := (RX3, TX3, 7)) moX3_leads jw_ml_X6_66 jw_im_X3_leads jw_se_X3_leads hb_ro rfl rfl dX6_step_26 (w_X3_leads_z (d - 1) _ ro x2 M g n s xx yy zz S X Y Z (by omega) hW  hb_ro ⟨_, hO_ro, hF_M⟩ ⟨_, hO_ro, hF_g⟩ ⟨_, hO_ro, hF_n⟩ ⟨_, hO_ro, hF_s⟩ ⟨_, hO_ro, hF_xx⟩ ⟨_, hO_ro, hF_yy⟩ ⟨_, hO_ro, hF_zz⟩ ha_S ha_X ha_Y ha_Z (by omega) (by omega) (by omega) (by omega) (by omega) (by omega) (by omega) (by omega) (by omega) (by omega) (by omega) (by omega) (by omega)) (by omega) (Nat.zero_le _) (Nat.zero_le _) (Nat.le_of_ble_eq_true rfl) (fun r26 V26 h26 => ?_)
      obtain ⟨⟨y26, rfl, hl26, hh26, hI26_0, hI26_1⟩, hE26⟩ := h26
      have hE26 := hE26.symm
      subst hE26
      refine Jz_if_ne (tgt := 35) jEq.rf dX6_step_29 (by decide) (fun c29 => ?_) (fun c29 => ?_)
      · have q29_0 := hI26_0.of (by omega)
        refine J_aload_n dX6_step_35 rfl ?_
        refine J_get jf_X6_69 dX6_step_36 hO_ro hF_n ?_
        refine Jz_bipush 60 dX6_step_39 (by decide) (fun y39 he39 => ?_)
        refine Jz_icmp_lt (tgt := 47) jEq.rf he39 dX6_step_41 (by decide) (fun c41 => ?_) (fun c41 => ?_)
        · exact False.elim (by omega)
        · refine Jz_bipush (-4) dX6_step_44 (by decide) (fun y44 he44 => ?_)
          exact J_ret (r := some (.int _)) dX6_step_46 ⟨rfl, _, rfl, rfl⟩ (⟨⟨_, rfl, (j_rng _).1, (j_rng _).2, (by (try simp only [he44.eq, true_and, and_true]) <;> omega)⟩, rfl⟩)
      · have q29_1 := hI26_1.of (by omega)
        exact False.elim (by obtain ⟨j, h1, h2⟩ := hI26_1.of (by omega); exact (jav_succ.mp hp7).2 j (by omega) ((hjv.next (by omega)).mpr (by rw [hT]; exact h2)))
    · exact False.elim (by omega)
set_option maxRecDepth 100000 in
set_option maxHeartbeats 8000000 in
theorem w_X6_step_ok {tS : jTS} (d : Nat) (V0 : jH) (a0 : Nat) (x1 : Int32) (x2 : Int32) (k : Int32) (md : Nat) (f : Nat → Option Nat) (ro : Nat) (M : Int32) (g : Int32) (n : Int32) (s : Nat) (xx : Nat) (yy : Nat) (zz : Nat) (S : Nat → Int32) (X : Nat → Int32) (Y : Nat → Int32) (Z : Nat → Int32) (hd : 4 ≤ d) (hW : WT V0) (ha0 : jis V0 (.inr 4) a0) (hf_k : jfI V0 a0 4 1 k) (hr_md : jfR V0 a0 4 0 md) (ha_f : V0 md = some (.inl (4, 16, .inr (.inr (.inr (.inr f)))))) (hf_M : jfI V0 ro 1 0 M) (hf_g : jfI V0 ro 1 5 g) (hf_n : jfI V0 ro 1 6 n) (hr_s : jfR V0 ro 1 1 s) (hr_xx : jfR V0 ro 1 2 xx) (hr_yy : jfR V0 ro 1 3 yy) (hr_zz : jfR V0 ro 1 4 zz) (ha_S : V0 s = some (.inl (6, 60, .inl S))) (ha_X : V0 xx = some (.inl (34, 61, .inl X))) (ha_Y : V0 yy = some (.inl (35, 61, .inl Y))) (ha_Z : V0 zz = some (.inl (36, 61, .inl Z))) (hm_ro : M.toInt = 60) (hn_ro : n.toInt ≤ 60) (hfo : f x1.toInt.toNat = some ro) (hp0 : 0 ≤ x1.toInt) (hp1 : x1.toInt < k.toInt) (hp2 : 0 ≤ g.toInt) (hp3 : g.toInt ≤ 3) (hp4 : 0 ≤ x2.toInt) (hp5 : x2.toInt < jdir g.toInt) (hp6 : jrv g.toInt (fun q => (S q).toInt) n.toInt.toNat X Y Z) (hp7 : jav g.toInt (jTs (fun q => (S q).toInt) n.toInt.toNat x2.toInt) (n.toInt.toNat + 1)) (hp8 : n.toInt < 60) : jTot tS mX6_step d [.ref a0, .int x1, .int x2] V0 0 0 (fun r V => (jPost [.inr 1, .inl 6, .inl 34, .inl 35, .inl 36] V0 (fun r _ => ∃ y : Int32, r = some (.int y) ∧ ((-2147483648) ≤ y.toInt) ∧ (y.toInt ≤ 2147483647) ∧ (y.toInt = n.toInt + 1))) r V ∧ (∃ S2 X2 Y2 Z2 : Nat → Int32, jrw V ro s xx yy zz 60 g.toInt (n.toInt + 1) S2 X2 Y2 Z2 ∧ (∀ j : Nat, (j : Int) < n.toInt + 1 → (S2 j).toInt = (jTs (fun q => (S q).toInt) n.toInt.toNat x2.toInt) j) ∧ jrv g.toInt (jTs (fun q => (S q).toInt) n.toInt.toNat x2.toInt) (n.toInt + 1).toNat X2 Y2 Z2) ∧ jfp [ro, s, xx, yy, zz] V0 V) := by
  refine jTot.of_J [some (.ref a0), some (.int x1), some (.int x2), none] moX6_step (Nat.le_of_ble_eq_true rfl) rfl ?_
  have hrx1 := j_rng x1
  have hrx2 := j_rng x2
  have he : jeff [.inr 1, .inl 6, .inl 34, .inl 35, .inl 36] V0 V0 := jeff.refl _ _
  have hfp : jfp [ro, s, xx, yy, zz] V0 V0 := jfp.rf
  obtain ⟨fs_a0, hO_a0, hK_a0⟩ := WT_obj hW id ha0
  have hF_k := hf_k.get hO_a0
  have hrk : 0 ≤ k.toInt ∧ k.toInt ≤ 16 := jok_rngI hK_a0 rfl hF_k
  have hF_md := hr_md.get hO_a0
  obtain ⟨w_md, hFq_md, b_md, hbq_md, hb_md⟩ := hK_a0.2 0 (.inr (some (.inl 4))) rfl
  cases hF_md.symm.trans (hFq_md.trans (congrArg some hbq_md))
  have hb_ro : jis V0 (.inr 1) ro := by obtain ⟨q1, q2, q3⟩ := hf_M; exact ⟨_, q2, rfl⟩
  obtain ⟨fs_ro, hO_ro, hK_ro⟩ := WT_obj hW id hb_ro
  have hF_M := hf_M.get hO_ro
  have hrM : 0 ≤ M.toInt ∧ M.toInt ≤ 120 := jok_rngI hK_ro rfl hF_M
  have hF_g := hf_g.get hO_ro
  have hrg : (-2147483648) ≤ g.toInt ∧ g.toInt ≤ 2147483647 := jok_rngI hK_ro rfl hF_g
  have hF_n := hf_n.get hO_ro
  have hrn : 0 ≤ n.toInt ∧ n.toInt ≤ 120 := jok_rngI hK_ro rfl hF_n
  have hF_s := hr_s.get hO_ro
  have hb_s : jis V0 (.inl 6) s := ⟨_, ha_S, rfl⟩
  obtain ⟨hN_S, hv_S⟩ := WT_rngI (r := (-2147483648, 2147483647)) hW id rfl ha_S
  clear hN_S
  have hF_xx := hr_xx.get hO_ro
  have hb_xx : jis V0 (.inl 34) xx := ⟨_, ha_X, rfl⟩
  obtain ⟨hN_X, hv_X⟩ := WT_rngI (r := (-2147483648, 2147483647)) hW id rfl ha_X
  clear hN_X
  have hF_yy := hr_yy.get hO_ro
  have hb_yy : jis V0 (.inl 35) yy := ⟨_, ha_Y, rfl⟩
  obtain ⟨hN_Y, hv_Y⟩ := WT_rngI (r := (-2147483648, 2147483647)) hW id rfl ha_Y
  clear hN_Y
  have hF_zz := hr_zz.get hO_ro
  have hb_zz : jis V0 (.inl 36) zz := ⟨_, ha_Z, rfl⟩
  obtain ⟨hN_Z, hv_Z⟩ := WT_rngI (r := (-2147483648, 2147483647)) hW id rfl ha_Z
  clear hN_Z
  refine J_aload_n dX6_step_0 rfl ?_
  refine J_iload_n dX6_step_1 rfl ?_
  have hT : (jTs (fun q => (S q).toInt) n.toInt.toNat x2.toInt) n.toInt.toNat = x2.toInt := by unfold jTs; rw [if_neg (by omega)]
  have hjv : jrv g.toInt (jTs (fun q => (S q).toInt) n.toInt.toNat x2.toInt) n.toInt.toNat X Y Z := hp6.congr (fun q hq => by unfold jTs; rw [if_pos hq])
  have hbx := hjv.b n.toInt.toNat (Nat.le_refl _)
  refine Jw_callV1 (q9 := (RX6, TX6, 7)) moX6_rowOf jw_ml_X6_55 jw_im_X6_rowOf jw_se_X6_rowOf ha0 rfl rfl dX6_step_2 (w_X6_rowOf_in (d - 1) _ a0 x1 hO_a0 hF_md hF_k ha_f (by omega) (by omega) (by omega) hfo) (by omega) (Nat.zero_le _) (Nat.zero_le _) (Nat.le_of_ble_eq_true rfl) (fun r2 V2 h2 => ?_)
  obtain ⟨rfl, hE2⟩ := h2
  have hE2 := hE2.symm
  subst hE2
  · refine J_astore_n dX6_step_5 rfl (by decide) ?_
    refine J_aload_n dX6_step_6 rfl ?_
    refine J_ifnull dX6_step_7 ?_
    refine J_aload_n dX6_step_10 rfl ?_
    refine J_get jf_X6_59 dX6_step_11 hO_ro hF_g ?_
    refine J_iload_n dX6_step_14 rfl ?_
    refine J_callS2 moX0_isDirection jw_ml_X6_62 jw_st_X0_isDirection dX6_step_15 (w_X0_isDirection_z (d - 1) _ g x2 (by omega)   (by omega) (by omega)) (by omega) (Nat.zero_le _) (Nat.zero_le _) (Nat.le_of_ble_eq_true rfl) (fun r15 V15 h15 => ?_)
    obtain ⟨⟨y15, rfl, hl15, hh15, hP15_0⟩, hE15⟩ := h15
    have hE15 := hE15.symm
    subst hE15
    refine Jz_if_ne (tgt := 24) jEq.rf dX6_step_18 (by decide) (fun c18 => ?_) (fun c18 => ?_)
    · refine J_aload_n dX6_step_24 rfl ?_
      refine J_iload_n dX6_step_25 rfl ?_
      refine Jw_callV1 (q9 := (RX3, TX3, 7)) moX3_leads jw_ml_X6_66 jw_im_X3_leads jw_se_X3_leads hb_ro rfl rfl dX6_step_26 (w_X3_leads_z (d - 1) _ ro x2 M g n s xx yy zz S X Y Z (by omega) hW  hb_ro ⟨_, hO_ro, hF_M⟩ ⟨_, hO_ro, hF_g⟩ ⟨_, hO_ro, hF_n⟩ ⟨_, hO_ro, hF_s⟩ ⟨_, hO_ro, hF_xx⟩ ⟨_, hO_ro, hF_yy⟩ ⟨_, hO_ro, hF_zz⟩ ha_S ha_X ha_Y ha_Z (by omega) (by omega) (by omega) (by omega) (by omega) (by omega) (by omega) (by omega) (by omega) (by omega) (by omega) (by omega) (by omega)) (by omega) (Nat.zero_le _) (Nat.zero_le _) (Nat.le_of_ble_eq_true rfl) (fun r26 V26 h26 => ?_)
      obtain ⟨⟨y26, rfl, hl26, hh26, hI26_0, hI26_1⟩, hE26⟩ := h26
      have hE26 := hE26.symm
      subst hE26
      refine Jz_if_ne (tgt := 35) jEq.rf dX6_step_29 (by decide) (fun c29 => ?_) (fun c29 => ?_)
      · have q29_0 := hI26_0.of (by omega)
        refine J_aload_n dX6_step_35 rfl ?_
        refine J_get jf_X6_69 dX6_step_36 hO_ro hF_n ?_
        refine Jz_bipush 60 dX6_step_39 (by decide) (fun y39 he39 => ?_)
        refine Jz_icmp_lt (tgt := 47) jEq.rf he39 dX6_step_41 (by decide) (fun c41 => ?_) (fun c41 => ?_)
        · refine J_aload_n dX6_step_47 rfl ?_
          refine J_iload_n dX6_step_48 rfl ?_
          refine Jw_callV1 (q9 := (RX3, TX3, 7)) moX3_lay jw_ml_X6_72 jw_im_X3_lay jw_se_X3_lay hb_ro rfl rfl dX6_step_49 (w_X3_lay_yes (d - 1) _ ro x2 M g n s xx yy zz S X Y Z (by omega) hW  hb_ro ⟨_, hO_ro, hF_M⟩ ⟨_, hO_ro, hF_g⟩ ⟨_, hO_ro, hF_n⟩ ⟨_, hO_ro, hF_s⟩ ⟨_, hO_ro, hF_xx⟩ ⟨_, hO_ro, hF_yy⟩ ⟨_, hO_ro, hF_zz⟩ ha_S ha_X ha_Y ha_Z (by omega) (by omega) (by omega) (by omega) (by omega) (by omega) (by omega) (by omega) (by omega) (by omega) (by omega) (by omega) (by omega) (by omega) (fun j hj q => (jav_succ.mp hp7).2 j (by omega) ((hjv.next (by omega)).mpr (by rw [hT]; exact q)))) (by omega) (Nat.zero_le _) (Nat.zero_le _) (Nat.le_of_ble_eq_true rfl) (fun r49 V49 h49 => ?_)
          obtain ⟨h49, hX49_0, hX49_1, hX49_2, hX49_3, hX49_4, ⟨fv49_0, hfv49_0, hfp49_0⟩, ⟨fv49_1, hfv49_1, hfp49_1⟩, ⟨fv49_2, hfv49_2, hfp49_2⟩⟩ := h49
          obtain ⟨hW, hx49, hr49⟩ := h49
          have he := he.trans (hx49.sub (jsub_of rfl))
          have hfp := hfp.trans (hX49_4.sub (fun b hb => by simp only [List.mem_cons, List.not_mem_nil, or_false] at hb ⊢; omega))
          have ha0 := ha0.mono hx49.1
          have hb_md := hb_md.mono hx49.1
          have hb_ro := hb_ro.mono hx49.1
          have hb_s := hb_s.mono hx49.1
          have hb_xx := hb_xx.mono hx49.1
          have hb_yy := hb_yy.mono hx49.1
          have hb_zz := hb_zz.mono hx49.1
          have hO_a0 := hx49.2 _ _ hO_a0 (jnot_of rfl)
          have hK_a0 := hK_a0.mono hx49.1
          obtain ⟨fs49ro, hOfs49ro, hRfs49ro⟩ := hx49.1.keep hO_ro
          have hKfs49ro : jokO _ (jFs 1) fs49ro := hW _ _ id hOfs49ro
          have hFfs49ro_1 := hRfs49ro _ _ hF_s
          have hFfs49ro_2 := hRfs49ro _ _ hF_xx
          have hFfs49ro_3 := hRfs49ro _ _ hF_yy
          have hFfs49ro_4 := hRfs49ro _ _ hF_zz
          obtain ⟨y49, rfl, hl49, hh49, hP49_0⟩ := hr49
          have hFv49_0 := hfv49_0.get hOfs49ro
          have hzf49_0 : jEq fv49_0.toInt ((n.toInt) + 1) := hfp49_0
          clear hfp49_0
          have hFv49_1 := hfv49_1.get hOfs49ro
          have hsb49_1 : M = fv49_1 := (jI_inj.mp hfp49_1).symm
          subst hsb49_1
          have hFv49_2 := hfv49_2.get hOfs49ro
          have hsb49_2 : g = fv49_2 := (jI_inj.mp hfp49_2).symm
          subst hsb49_2
          obtain ⟨S49, hS49, hSn49, hSo49⟩ := hX49_0
          obtain ⟨X49, hXa49, hXn49, hXo49⟩ := hX49_1
          obtain ⟨Y49, hYa49, hYn49, hYo49⟩ := hX49_2
          obtain ⟨Z49, hZa49, hZn49, hZo49⟩ := hX49_3
          obtain ⟨hN_S49, hv_S49⟩ := WT_rngI (r := ((-2147483648), 2147483647)) hW id rfl hS49
          clear hN_S49
          obtain ⟨hN_X49, hv_X49⟩ := WT_rngI (r := ((-2147483648), 2147483647)) hW id rfl hXa49
          clear hN_X49
          obtain ⟨hN_Y49, hv_Y49⟩ := WT_rngI (r := ((-2147483648), 2147483647)) hW id rfl hYa49
          clear hN_Y49
          obtain ⟨hN_Z49, hv_Z49⟩ := WT_rngI (r := ((-2147483648), 2147483647)) hW id rfl hZa49
          clear hN_Z49
          refine J_pop dX6_step_52 rfl ?_
          refine J_aload_n dX6_step_53 rfl ?_
          refine J_get jf_X6_69 dX6_step_54 hOfs49ro hFv49_0 ?_
          exact J_ret (r := some (.int _)) dX6_step_57 ⟨rfl, _, rfl, rfl⟩ (⟨⟨hW, he, ⟨_, rfl, (j_rng _).1, (j_rng _).2, (by (try simp only [hzf49_0.eq, true_and, and_true]) <;> omega)⟩⟩, ⟨S49, X49, Y49, Z49, ⟨⟨_, ⟨_, hOfs49ro, hFv49_1⟩, hm_ro⟩, ⟨_, ⟨_, hOfs49ro, hFv49_2⟩, rfl⟩, ⟨_, ⟨_, hOfs49ro, hFv49_0⟩, hzf49_0.eq⟩, ⟨_, hOfs49ro, hFfs49ro_1⟩, ⟨_, hOfs49ro, hFfs49ro_2⟩, ⟨_, hOfs49ro, hFfs49ro_3⟩, ⟨_, hOfs49ro, hFfs49ro_4⟩, hS49, hXa49, hYa49, hZa49⟩, (fun j hj => by by_cases c : (j : Int) = n.toInt; (have e : j = n.toInt.toNat := by omega); subst e; rw [hSn49, hT]; rw [hSo49 j (by omega)]; unfold jTs; rw [if_pos (by omega)]), (by rw [show (n.toInt + 1).toNat = n.toInt.toNat + 1 by omega]; exact hjv.lay (by rw [hXn49, hT]) (by rw [hYn49, hT]) (by rw [hZn49, hT]) hXo49 hYo49 hZo49)⟩, hfp⟩)
        · exact False.elim (by omega)
      · have q29_1 := hI26_1.of (by omega)
        exact False.elim (by obtain ⟨j, h1, h2⟩ := hI26_1.of (by omega); exact (jav_succ.mp hp7).2 j (by omega) ((hjv.next (by omega)).mpr (by rw [hT]; exact h2)))
    · exact False.elim (by omega)
set_option maxRecDepth 100000 in
set_option maxHeartbeats 8000000 in
theorem w_X6_back_out {tS : jTS} (d : Nat) (V0 : jH) (a0 : Nat) (x1 : Int32) (x2 : Int32) (k : Int32) (md : Nat) (hd : 2 ≤ d) (hW : WT V0) (ha0 : jis V0 (.inr 4) a0) (hf_k : jfI V0 a0 4 1 k) (hr_md : jfR V0 a0 4 0 md) (hp0 : ¬ (0 ≤ x1.toInt ∧ x1.toInt < k.toInt)) : jTot tS mX6_back d [.ref a0, .int x1, .int x2] V0 0 0 (fun r V => (fun r _ => ∃ y : Int32, r = some (.int y) ∧ ((-2147483648) ≤ y.toInt) ∧ (y.toInt ≤ 2147483647) ∧ (y.toInt = -2)) r V ∧ V = V0) := by
  refine jTot.of_J [some (.ref a0), some (.int x1), some (.int x2), none] moX6_back (Nat.le_of_ble_eq_true rfl) rfl ?_
  have hrx1 := j_rng x1
  have hrx2 := j_rng x2
  have he : jeff [] V0 V0 := jeff.refl _ _
  obtain ⟨fs_a0, hO_a0, hK_a0⟩ := WT_obj hW id ha0
  have hF_k := hf_k.get hO_a0
  have hrk : 0 ≤ k.toInt ∧ k.toInt ≤ 16 := jok_rngI hK_a0 rfl hF_k
  have hF_md := hr_md.get hO_a0
  obtain ⟨w_md, hFq_md, b_md, hbq_md, hb_md⟩ := hK_a0.2 0 (.inr (some (.inl 4))) rfl
  cases hF_md.symm.trans (hFq_md.trans (congrArg some hbq_md))
  refine J_aload_n dX6_back_0 rfl ?_
  refine J_iload_n dX6_back_1 rfl ?_
  refine Jw_callV1 (q9 := (RX6, TX6, 7)) moX6_rowOf jw_ml_X6_55 jw_im_X6_rowOf jw_se_X6_rowOf ha0 rfl rfl dX6_back_2 (w_X6_rowOf_out (d - 1) _ a0 x1 hO_a0 hF_k (by omega)) (by omega) (Nat.zero_le _) (Nat.zero_le _) (Nat.le_of_ble_eq_true rfl) (fun r2 V2 h2 => ?_)
  obtain ⟨rfl, hE2⟩ := h2
  have hE2 := hE2.symm
  subst hE2
  · refine J_astore_nN dX6_back_5 rfl (by decide) ?_
    refine J_aload_nN dX6_back_6 rfl ?_
    refine J_ifnullN (tgt := 22) dX6_back_7 (by decide) ?_
    refine Jz_bipush (-2) dX6_back_22 (by decide) (fun y22 he22 => ?_)
    exact J_ret (r := some (.int _)) dX6_back_24 ⟨rfl, _, rfl, rfl⟩ (⟨⟨_, rfl, (j_rng _).1, (j_rng _).2, (by (try simp only [he22.eq, true_and, and_true]) <;> omega)⟩, rfl⟩)
set_option maxRecDepth 100000 in
set_option maxHeartbeats 8000000 in
theorem w_X6_back_bad {tS : jTS} (d : Nat) (V0 : jH) (a0 : Nat) (x1 : Int32) (x2 : Int32) (k : Int32) (md : Nat) (f : Nat → Option Nat) (ro : Nat) (M : Int32) (g : Int32) (n : Int32) (s : Nat) (xx : Nat) (yy : Nat) (zz : Nat) (S : Nat → Int32) (X : Nat → Int32) (Y : Nat → Int32) (Z : Nat → Int32) (hd : 2 ≤ d) (hW : WT V0) (ha0 : jis V0 (.inr 4) a0) (hf_k : jfI V0 a0 4 1 k) (hr_md : jfR V0 a0 4 0 md) (ha_f : V0 md = some (.inl (4, 16, .inr (.inr (.inr (.inr f)))))) (hf_M : jfI V0 ro 1 0 M) (hf_g : jfI V0 ro 1 5 g) (hf_n : jfI V0 ro 1 6 n) (hr_s : jfR V0 ro 1 1 s) (hr_xx : jfR V0 ro 1 2 xx) (hr_yy : jfR V0 ro 1 3 yy) (hr_zz : jfR V0 ro 1 4 zz) (ha_S : V0 s = some (.inl (6, 60, .inl S))) (ha_X : V0 xx = some (.inl (34, 61, .inl X))) (ha_Y : V0 yy = some (.inl (35, 61, .inl Y))) (ha_Z : V0 zz = some (.inl (36, 61, .inl Z))) (hm_ro : M.toInt = 60) (hn_ro : n.toInt ≤ 60) (hfo : f x1.toInt.toNat = some ro) (hp0 : 0 ≤ x1.toInt) (hp1 : x1.toInt < k.toInt) (hp2 : ¬ (0 ≤ x2.toInt ∧ x2.toInt ≤ n.toInt)) : jTot tS mX6_back d [.ref a0, .int x1, .int x2] V0 0 0 (fun r V => (fun r _ => ∃ y : Int32, r = some (.int y) ∧ ((-2147483648) ≤ y.toInt) ∧ (y.toInt ≤ 2147483647) ∧ (y.toInt = -2)) r V ∧ V = V0) := by
  refine jTot.of_J [some (.ref a0), some (.int x1), some (.int x2), none] moX6_back (Nat.le_of_ble_eq_true rfl) rfl ?_
  have hrx1 := j_rng x1
  have hrx2 := j_rng x2
  have he : jeff [] V0 V0 := jeff.refl _ _
  obtain ⟨fs_a0, hO_a0, hK_a0⟩ := WT_obj hW id ha0
  have hF_k := hf_k.get hO_a0
  have hrk : 0 ≤ k.toInt ∧ k.toInt ≤ 16 := jok_rngI hK_a0 rfl hF_k
  have hF_md := hr_md.get hO_a0
  obtain ⟨w_md, hFq_md, b_md, hbq_md, hb_md⟩ := hK_a0.2 0 (.inr (some (.inl 4))) rfl
  cases hF_md.symm.trans (hFq_md.trans (congrArg some hbq_md))
  have hb_ro : jis V0 (.inr 1) ro := by obtain ⟨q1, q2, q3⟩ := hf_M; exact ⟨_, q2, rfl⟩
  obtain ⟨fs_ro, hO_ro, hK_ro⟩ := WT_obj hW id hb_ro
  have hF_M := hf_M.get hO_ro
  have hrM : 0 ≤ M.toInt ∧ M.toInt ≤ 120 := jok_rngI hK_ro rfl hF_M
  have hF_g := hf_g.get hO_ro
  have hrg : (-2147483648) ≤ g.toInt ∧ g.toInt ≤ 2147483647 := jok_rngI hK_ro rfl hF_g
  have hF_n := hf_n.get hO_ro
  have hrn : 0 ≤ n.toInt ∧ n.toInt ≤ 120 := jok_rngI hK_ro rfl hF_n
  have hF_s := hr_s.get hO_ro
  have hb_s : jis V0 (.inl 6) s := ⟨_, ha_S, rfl⟩
  obtain ⟨hN_S, hv_S⟩ := WT_rngI (r := (-2147483648, 2147483647)) hW id rfl ha_S
  clear hN_S
  have hF_xx := hr_xx.get hO_ro
  have hb_xx : jis V0 (.inl 34) xx := ⟨_, ha_X, rfl⟩
  obtain ⟨hN_X, hv_X⟩ := WT_rngI (r := (-2147483648, 2147483647)) hW id rfl ha_X
  clear hN_X
  have hF_yy := hr_yy.get hO_ro
  have hb_yy : jis V0 (.inl 35) yy := ⟨_, ha_Y, rfl⟩
  obtain ⟨hN_Y, hv_Y⟩ := WT_rngI (r := (-2147483648, 2147483647)) hW id rfl ha_Y
  clear hN_Y
  have hF_zz := hr_zz.get hO_ro
  have hb_zz : jis V0 (.inl 36) zz := ⟨_, ha_Z, rfl⟩
  obtain ⟨hN_Z, hv_Z⟩ := WT_rngI (r := (-2147483648, 2147483647)) hW id rfl ha_Z
  clear hN_Z
  refine J_aload_n dX6_back_0 rfl ?_
  refine J_iload_n dX6_back_1 rfl ?_
  refine Jw_callV1 (q9 := (RX6, TX6, 7)) moX6_rowOf jw_ml_X6_55 jw_im_X6_rowOf jw_se_X6_rowOf ha0 rfl rfl dX6_back_2 (w_X6_rowOf_in (d - 1) _ a0 x1 hO_a0 hF_md hF_k ha_f (by omega) (by omega) (by omega) hfo) (by omega) (Nat.zero_le _) (Nat.zero_le _) (Nat.le_of_ble_eq_true rfl) (fun r2 V2 h2 => ?_)
  obtain ⟨rfl, hE2⟩ := h2
  have hE2 := hE2.symm
  subst hE2
  · refine J_astore_n dX6_back_5 rfl (by decide) ?_
    refine J_aload_n dX6_back_6 rfl ?_
    refine J_ifnull dX6_back_7 ?_
    refine J_iload_n dX6_back_10 rfl ?_
    refine Jz_if_lt (tgt := 22) jEq.rf dX6_back_11 (by decide) (fun c11 => ?_) (fun c11 => ?_)
    · refine Jz_bipush (-2) dX6_back_22 (by decide) (fun y22 he22 => ?_)
      exact J_ret (r := some (.int _)) dX6_back_24 ⟨rfl, _, rfl, rfl⟩ (⟨⟨_, rfl, (j_rng _).1, (j_rng _).2, (by (try simp only [he22.eq, true_and, and_true]) <;> omega)⟩, rfl⟩)
    · refine J_iload_n dX6_back_14 rfl ?_
      refine J_aload_n dX6_back_15 rfl ?_
      refine J_get jf_X6_69 dX6_back_16 hO_ro hF_n ?_
      refine Jz_icmp_le (tgt := 25) jEq.rf jEq.rf dX6_back_19 (by decide) (fun c19 => ?_) (fun c19 => ?_)
      · exact False.elim (by omega)
      · refine Jz_bipush (-2) dX6_back_22 (by decide) (fun y22 he22 => ?_)
        exact J_ret (r := some (.int _)) dX6_back_24 ⟨rfl, _, rfl, rfl⟩ (⟨⟨_, rfl, (j_rng _).1, (j_rng _).2, (by (try simp only [he22.eq, true_and, and_true]) <;> omega)⟩, rfl⟩)
set_option maxRecDepth 100000 in
set_option maxHeartbeats 8000000 in
theorem w_X6_back_ok {tS : jTS} (d : Nat) (V0 : jH) (a0 : Nat) (x1 : Int32) (x2 : Int32) (k : Int32) (md : Nat) (f : Nat → Option Nat) (ro : Nat) (M : Int32) (g : Int32) (n : Int32) (s : Nat) (xx : Nat) (yy : Nat) (zz : Nat) (S : Nat → Int32) (X : Nat → Int32) (Y : Nat → Int32) (Z : Nat → Int32) (hd : 2 ≤ d) (hW : WT V0) (ha0 : jis V0 (.inr 4) a0) (hf_k : jfI V0 a0 4 1 k) (hr_md : jfR V0 a0 4 0 md) (ha_f : V0 md = some (.inl (4, 16, .inr (.inr (.inr (.inr f)))))) (hf_M : jfI V0 ro 1 0 M) (hf_g : jfI V0 ro 1 5 g) (hf_n : jfI V0 ro 1 6 n) (hr_s : jfR V0 ro 1 1 s) (hr_xx : jfR V0 ro 1 2 xx) (hr_yy : jfR V0 ro 1 3 yy) (hr_zz : jfR V0 ro 1 4 zz) (ha_S : V0 s = some (.inl (6, 60, .inl S))) (ha_X : V0 xx = some (.inl (34, 61, .inl X))) (ha_Y : V0 yy = some (.inl (35, 61, .inl Y))) (ha_Z : V0 zz = some (.inl (36, 61, .inl Z))) (hm_ro : M.toInt = 60) (hn_ro : n.toInt ≤ 60) (hfo : f x1.toInt.toNat = some ro) (hp0 : 0 ≤ x1.toInt) (hp1 : x1.toInt < k.toInt) (hp2 : 0 ≤ x2.toInt) (hp3 : x2.toInt ≤ n.toInt) : jTot tS mX6_back d [.ref a0, .int x1, .int x2] V0 0 0 (fun r V => (jPost [.inr 1] V0 (fun r _ => ∃ y : Int32, r = some (.int y) ∧ ((-2147483648) ≤ y.toInt) ∧ (y.toInt ≤ 2147483647) ∧ (y.toInt = n.toInt - x2.toInt))) r V ∧ jrw V ro s xx yy zz 60 g.toInt (n.toInt - x2.toInt) S X Y Z ∧ jfp [ro] V0 V) := by
  refine jTot.of_J [some (.ref a0), some (.int x1), some (.int x2), none] moX6_back (Nat.le_of_ble_eq_true rfl) rfl ?_
  have hrx1 := j_rng x1
  have hrx2 := j_rng x2
  have he : jeff [.inr 1] V0 V0 := jeff.refl _ _
  have hfp : jfp [ro] V0 V0 := jfp.rf
  obtain ⟨fs_a0, hO_a0, hK_a0⟩ := WT_obj hW id ha0
  have hF_k := hf_k.get hO_a0
  have hrk : 0 ≤ k.toInt ∧ k.toInt ≤ 16 := jok_rngI hK_a0 rfl hF_k
  have hF_md := hr_md.get hO_a0
  obtain ⟨w_md, hFq_md, b_md, hbq_md, hb_md⟩ := hK_a0.2 0 (.inr (some (.inl 4))) rfl
  cases hF_md.symm.trans (hFq_md.trans (congrArg some hbq_md))
  have hb_ro : jis V0 (.inr 1) ro := by obtain ⟨q1, q2, q3⟩ := hf_M; exact ⟨_, q2, rfl⟩
  obtain ⟨fs_ro, hO_ro, hK_ro⟩ := WT_obj hW id hb_ro
  have hF_M := hf_M.get hO_ro
  have hrM : 0 ≤ M.toInt ∧ M.toInt ≤ 120 := jok_rngI hK_ro rfl hF_M
  have hF_g := hf_g.get hO_ro
  have hrg : (-2147483648) ≤ g.toInt ∧ g.toInt ≤ 2147483647 := jok_rngI hK_ro rfl hF_g
  have hF_n := hf_n.get hO_ro
  have hrn : 0 ≤ n.toInt ∧ n.toInt ≤ 120 := jok_rngI hK_ro rfl hF_n
  have hF_s := hr_s.get hO_ro
  have hb_s : jis V0 (.inl 6) s := ⟨_, ha_S, rfl⟩
  obtain ⟨hN_S, hv_S⟩ := WT_rngI (r := (-2147483648, 2147483647)) hW id rfl ha_S
  clear hN_S
  have hF_xx := hr_xx.get hO_ro
  have hb_xx : jis V0 (.inl 34) xx := ⟨_, ha_X, rfl⟩
  obtain ⟨hN_X, hv_X⟩ := WT_rngI (r := (-2147483648, 2147483647)) hW id rfl ha_X
  clear hN_X
  have hF_yy := hr_yy.get hO_ro
  have hb_yy : jis V0 (.inl 35) yy := ⟨_, ha_Y, rfl⟩
  obtain ⟨hN_Y, hv_Y⟩ := WT_rngI (r := (-2147483648, 2147483647)) hW id rfl ha_Y
  clear hN_Y
  have hF_zz := hr_zz.get hO_ro
  have hb_zz : jis V0 (.inl 36) zz := ⟨_, ha_Z, rfl⟩
  obtain ⟨hN_Z, hv_Z⟩ := WT_rngI (r := (-2147483648, 2147483647)) hW id rfl ha_Z
  clear hN_Z
  refine J_aload_n dX6_back_0 rfl ?_
  refine J_iload_n dX6_back_1 rfl ?_
  refine Jw_callV1 (q9 := (RX6, TX6, 7)) moX6_rowOf jw_ml_X6_55 jw_im_X6_rowOf jw_se_X6_rowOf ha0 rfl rfl dX6_back_2 (w_X6_rowOf_in (d - 1) _ a0 x1 hO_a0 hF_md hF_k ha_f (by omega) (by omega) (by omega) hfo) (by omega) (Nat.zero_le _) (Nat.zero_le _) (Nat.le_of_ble_eq_true rfl) (fun r2 V2 h2 => ?_)
  obtain ⟨rfl, hE2⟩ := h2
  have hE2 := hE2.symm
  subst hE2
  · refine J_astore_n dX6_back_5 rfl (by decide) ?_
    refine J_aload_n dX6_back_6 rfl ?_
    refine J_ifnull dX6_back_7 ?_
    refine J_iload_n dX6_back_10 rfl ?_
    refine Jz_if_lt (tgt := 22) jEq.rf dX6_back_11 (by decide) (fun c11 => ?_) (fun c11 => ?_)
    · exact False.elim (by omega)
    · refine J_iload_n dX6_back_14 rfl ?_
      refine J_aload_n dX6_back_15 rfl ?_
      refine J_get jf_X6_69 dX6_back_16 hO_ro hF_n ?_
      refine Jz_icmp_le (tgt := 25) jEq.rf jEq.rf dX6_back_19 (by decide) (fun c19 => ?_) (fun c19 => ?_)
      · refine J_aload_n dX6_back_25 rfl ?_
        refine J_iload_n dX6_back_26 rfl ?_
        refine Jw_callV1 (q9 := (RX3, TX3, 7)) moX3_drop jw_ml_X6_75 jw_im_X3_drop jw_se_X3_drop hb_ro rfl rfl dX6_back_27 (w_X3_drop_z (d - 1) _ ro x2 M g n (by omega) hW  hb_ro ⟨_, hO_ro, hF_M⟩ ⟨_, hO_ro, hF_g⟩ ⟨_, hO_ro, hF_n⟩ (by omega) (by omega)) (by omega) (Nat.zero_le _) (Nat.zero_le _) (Nat.le_of_ble_eq_true rfl) (fun r27 V27 h27 => ?_)
        obtain ⟨h27, hX27_0, ⟨fv27_0, hfv27_0, hfp27_0⟩, ⟨fv27_1, hfv27_1, hfp27_1⟩, ⟨fv27_2, hfv27_2, hfp27_2⟩⟩ := h27
        obtain ⟨hW, hx27, hr27⟩ := h27
        have he := he.trans (hx27.sub (jsub_of rfl))
        have hfp := hfp.trans (hX27_0.sub (fun b hb => by simp only [List.mem_cons, List.not_mem_nil, or_false] at hb ⊢; omega))
        have ha0 := ha0.mono hx27.1
        have hb_md := hb_md.mono hx27.1
        have hb_ro := hb_ro.mono hx27.1
        have hb_s := hb_s.mono hx27.1
        have hb_xx := hb_xx.mono hx27.1
        have hb_yy := hb_yy.mono hx27.1
        have hb_zz := hb_zz.mono hx27.1
        have hO_a0 := hx27.2 _ _ hO_a0 (jnot_of rfl)
        have hK_a0 := hK_a0.mono hx27.1
        obtain ⟨fs27ro, hOfs27ro, hRfs27ro⟩ := hx27.1.keep hO_ro
        have hKfs27ro : jokO _ (jFs 1) fs27ro := hW _ _ id hOfs27ro
        have hFfs27ro_1 := hRfs27ro _ _ hF_s
        have hFfs27ro_2 := hRfs27ro _ _ hF_xx
        have hFfs27ro_3 := hRfs27ro _ _ hF_yy
        have hFfs27ro_4 := hRfs27ro _ _ hF_zz
        have ha_S := hx27.2 _ _ ha_S (jnot_of rfl)
        have ha_X := hx27.2 _ _ ha_X (jnot_of rfl)
        have ha_Y := hx27.2 _ _ ha_Y (jnot_of rfl)
        have ha_Z := hx27.2 _ _ ha_Z (jnot_of rfl)
        cases hr27
        have hFv27_0 := hfv27_0.get hOfs27ro
        have hsb27_0 : M = fv27_0 := (jI_inj.mp hfp27_0).symm
        subst hsb27_0
        have hFv27_1 := hfv27_1.get hOfs27ro
        have hsb27_1 : g = fv27_1 := (jI_inj.mp hfp27_1).symm
        subst hsb27_1
        have hFv27_2 := hfv27_2.get hOfs27ro
        have hzf27_2 : jEq fv27_2.toInt ((n.toInt) - (x2.toInt)) := hfp27_2
        clear hfp27_2
        refine J_aload_n dX6_back_30 rfl ?_
        refine J_get jf_X6_69 dX6_back_31 hOfs27ro hFv27_2 ?_
        exact J_ret (r := some (.int _)) dX6_back_34 ⟨rfl, _, rfl, rfl⟩ (⟨⟨hW, he, ⟨_, rfl, (j_rng _).1, (j_rng _).2, (by (try simp only [hzf27_2.eq, true_and, and_true]) <;> omega)⟩⟩, ⟨⟨_, ⟨_, hOfs27ro, hFv27_0⟩, hm_ro⟩, ⟨_, ⟨_, hOfs27ro, hFv27_1⟩, rfl⟩, ⟨_, ⟨_, hOfs27ro, hFv27_2⟩, hzf27_2.eq⟩, ⟨_, hOfs27ro, hFfs27ro_1⟩, ⟨_, hOfs27ro, hFfs27ro_2⟩, ⟨_, hOfs27ro, hFfs27ro_3⟩, ⟨_, hOfs27ro, hFfs27ro_4⟩, ha_S, ha_X, ha_Y, ha_Z⟩, hfp⟩)
      · exact False.elim (by omega)
set_option maxRecDepth 100000 in
set_option maxHeartbeats 8000000 in
theorem w_X6_pivot_out {tS : jTS} (d : Nat) (V0 : jH) (a0 : Nat) (x1 : Int32) (x2 : Int32) (x3 : Int32) (k : Int32) (md : Nat) (hd : 4 ≤ d) (hW : WT V0) (ha0 : jis V0 (.inr 4) a0) (hf_k : jfI V0 a0 4 1 k) (hr_md : jfR V0 a0 4 0 md) (hp0 : ¬ (0 ≤ x1.toInt ∧ x1.toInt < k.toInt)) : jTot tS mX6_pivot d [.ref a0, .int x1, .int x2, .int x3] V0 0 0 (fun r V => (fun r _ => ∃ y : Int32, r = some (.int y) ∧ ((-2147483648) ≤ y.toInt) ∧ (y.toInt ≤ 2147483647) ∧ (y.toInt = -2)) r V ∧ V = V0) := by
  refine jTot.of_J [some (.ref a0), some (.int x1), some (.int x2), some (.int x3), none, none, none] moX6_pivot (Nat.le_of_ble_eq_true rfl) rfl ?_
  have hrx1 := j_rng x1
  have hrx2 := j_rng x2
  have hrx3 := j_rng x3
  have he : jeff [] V0 V0 := jeff.refl _ _
  obtain ⟨fs_a0, hO_a0, hK_a0⟩ := WT_obj hW id ha0
  have hF_k := hf_k.get hO_a0
  have hrk : 0 ≤ k.toInt ∧ k.toInt ≤ 16 := jok_rngI hK_a0 rfl hF_k
  have hF_md := hr_md.get hO_a0
  obtain ⟨w_md, hFq_md, b_md, hbq_md, hb_md⟩ := hK_a0.2 0 (.inr (some (.inl 4))) rfl
  cases hF_md.symm.trans (hFq_md.trans (congrArg some hbq_md))
  refine J_aload_n dX6_pivot_0 rfl ?_
  refine J_iload_n dX6_pivot_1 rfl ?_
  refine Jw_callV1 (q9 := (RX6, TX6, 7)) moX6_rowOf jw_ml_X6_55 jw_im_X6_rowOf jw_se_X6_rowOf ha0 rfl rfl dX6_pivot_2 (w_X6_rowOf_out (d - 1) _ a0 x1 hO_a0 hF_k (by omega)) (by omega) (Nat.zero_le _) (Nat.zero_le _) (Nat.le_of_ble_eq_true rfl) (fun r2 V2 h2 => ?_)
  obtain ⟨rfl, hE2⟩ := h2
  have hE2 := hE2.symm
  subst hE2
  · refine J_astoreN dX6_pivot_5 rfl (by decide) ?_
    refine J_aloadN dX6_pivot_7 rfl ?_
    refine J_ifnullN (tgt := 37) dX6_pivot_9 (by decide) ?_
    refine Jz_bipush (-2) dX6_pivot_37 (by decide) (fun y37 he37 => ?_)
    exact J_ret (r := some (.int _)) dX6_pivot_39 ⟨rfl, _, rfl, rfl⟩ (⟨⟨_, rfl, (j_rng _).1, (j_rng _).2, (by (try simp only [he37.eq, true_and, and_true]) <;> omega)⟩, rfl⟩)
set_option maxRecDepth 100000 in
set_option maxHeartbeats 8000000 in
theorem w_X6_pivot_bad {tS : jTS} (d : Nat) (V0 : jH) (a0 : Nat) (x1 : Int32) (x2 : Int32) (x3 : Int32) (k : Int32) (md : Nat) (f : Nat → Option Nat) (ro : Nat) (M : Int32) (g : Int32) (n : Int32) (s : Nat) (xx : Nat) (yy : Nat) (zz : Nat) (S : Nat → Int32) (X : Nat → Int32) (Y : Nat → Int32) (Z : Nat → Int32) (hd : 4 ≤ d) (hW : WT V0) (ha0 : jis V0 (.inr 4) a0) (hf_k : jfI V0 a0 4 1 k) (hr_md : jfR V0 a0 4 0 md) (ha_f : V0 md = some (.inl (4, 16, .inr (.inr (.inr (.inr f)))))) (hf_M : jfI V0 ro 1 0 M) (hf_g : jfI V0 ro 1 5 g) (hf_n : jfI V0 ro 1 6 n) (hr_s : jfR V0 ro 1 1 s) (hr_xx : jfR V0 ro 1 2 xx) (hr_yy : jfR V0 ro 1 3 yy) (hr_zz : jfR V0 ro 1 4 zz) (ha_S : V0 s = some (.inl (6, 60, .inl S))) (ha_X : V0 xx = some (.inl (34, 61, .inl X))) (ha_Y : V0 yy = some (.inl (35, 61, .inl Y))) (ha_Z : V0 zz = some (.inl (36, 61, .inl Z))) (hm_ro : M.toInt = 60) (hn_ro : n.toInt ≤ 60) (hfo : f x1.toInt.toNat = some ro) (hp0 : 0 ≤ x1.toInt) (hp1 : x1.toInt < k.toInt) (hp2 : 0 ≤ g.toInt) (hp3 : g.toInt ≤ 3) (hp4 : ¬ (0 ≤ x2.toInt ∧ x2.toInt ≤ n.toInt ∧ 0 ≤ x3.toInt ∧ x3.toInt < jtur g.toInt)) : jTot tS mX6_pivot d [.ref a0, .int x1, .int x2, .int x3] V0 0 0 (fun r V => (fun r _ => ∃ y : Int32, r = some (.int y) ∧ ((-2147483648) ≤ y.toInt) ∧ (y.toInt ≤ 2147483647) ∧ (y.toInt = -2)) r V ∧ V = V0) := by
  refine jTot.of_J [some (.ref a0), some (.int x1), some (.int x2), some (.int x3), none, none, none] moX6_pivot (Nat.le_of_ble_eq_true rfl) rfl ?_
  have hrx1 := j_rng x1
  have hrx2 := j_rng x2
  have hrx3 := j_rng x3
  have he : jeff [] V0 V0 := jeff.refl _ _
  obtain ⟨fs_a0, hO_a0, hK_a0⟩ := WT_obj hW id ha0
  have hF_k := hf_k.get hO_a0
  have hrk : 0 ≤ k.toInt ∧ k.toInt ≤ 16 := jok_rngI hK_a0 rfl hF_k
  have hF_md := hr_md.get hO_a0
  obtain ⟨w_md, hFq_md, b_md, hbq_md, hb_md⟩ := hK_a0.2 0 (.inr (some (.inl 4))) rfl
  cases hF_md.symm.trans (hFq_md.trans (congrArg some hbq_md))
  have hb_ro : jis V0 (.inr 1) ro := by obtain ⟨q1, q2, q3⟩ := hf_M; exact ⟨_, q2, rfl⟩
  obtain ⟨fs_ro, hO_ro, hK_ro⟩ := WT_obj hW id hb_ro
  have hF_M := hf_M.get hO_ro
  have hrM : 0 ≤ M.toInt ∧ M.toInt ≤ 120 := jok_rngI hK_ro rfl hF_M
  have hF_g := hf_g.get hO_ro
  have hrg : (-2147483648) ≤ g.toInt ∧ g.toInt ≤ 2147483647 := jok_rngI hK_ro rfl hF_g
  have hF_n := hf_n.get hO_ro
  have hrn : 0 ≤ n.toInt ∧ n.toInt ≤ 120 := jok_rngI hK_ro rfl hF_n
  have hF_s := hr_s.get hO_ro
  have hb_s : jis V0 (.inl 6) s := ⟨_, ha_S, rfl⟩
  obtain ⟨hN_S, hv_S⟩ := WT_rngI (r := (-2147483648, 2147483647)) hW id rfl ha_S
  clear hN_S
  have hF_xx := hr_xx.get hO_ro
  have hb_xx : jis V0 (.inl 34) xx := ⟨_, ha_X, rfl⟩
  obtain ⟨hN_X, hv_X⟩ := WT_rngI (r := (-2147483648, 2147483647)) hW id rfl ha_X
  clear hN_X
  have hF_yy := hr_yy.get hO_ro
  have hb_yy : jis V0 (.inl 35) yy := ⟨_, ha_Y, rfl⟩
  obtain ⟨hN_Y, hv_Y⟩ := WT_rngI (r := (-2147483648, 2147483647)) hW id rfl ha_Y
  clear hN_Y
  have hF_zz := hr_zz.get hO_ro
  have hb_zz : jis V0 (.inl 36) zz := ⟨_, ha_Z, rfl⟩
  obtain ⟨hN_Z, hv_Z⟩ := WT_rngI (r := (-2147483648, 2147483647)) hW id rfl ha_Z
  clear hN_Z
  refine J_aload_n dX6_pivot_0 rfl ?_
  refine J_iload_n dX6_pivot_1 rfl ?_
  refine Jw_callV1 (q9 := (RX6, TX6, 7)) moX6_rowOf jw_ml_X6_55 jw_im_X6_rowOf jw_se_X6_rowOf ha0 rfl rfl dX6_pivot_2 (w_X6_rowOf_in (d - 1) _ a0 x1 hO_a0 hF_md hF_k ha_f (by omega) (by omega) (by omega) hfo) (by omega) (Nat.zero_le _) (Nat.zero_le _) (Nat.le_of_ble_eq_true rfl) (fun r2 V2 h2 => ?_)
  obtain ⟨rfl, hE2⟩ := h2
  have hE2 := hE2.symm
  subst hE2
  · refine J_astore dX6_pivot_5 rfl (by decide) ?_
    refine J_aload dX6_pivot_7 rfl ?_
    refine J_ifnull dX6_pivot_9 ?_
    refine J_iload_n dX6_pivot_12 rfl ?_
    refine Jz_if_lt (tgt := 37) jEq.rf dX6_pivot_13 (by decide) (fun c13 => ?_) (fun c13 => ?_)
    · refine Jz_bipush (-2) dX6_pivot_37 (by decide) (fun y37 he37 => ?_)
      exact J_ret (r := some (.int _)) dX6_pivot_39 ⟨rfl, _, rfl, rfl⟩ (⟨⟨_, rfl, (j_rng _).1, (j_rng _).2, (by (try simp only [he37.eq, true_and, and_true]) <;> omega)⟩, rfl⟩)
    · refine J_iload_n dX6_pivot_16 rfl ?_
      refine J_aload dX6_pivot_17 rfl ?_
      refine J_get jf_X6_69 dX6_pivot_19 hO_ro hF_n ?_
      refine Jz_icmp_gt (tgt := 37) jEq.rf jEq.rf dX6_pivot_22 (by decide) (fun c22 => ?_) (fun c22 => ?_)
      · refine Jz_bipush (-2) dX6_pivot_37 (by decide) (fun y37 he37 => ?_)
        exact J_ret (r := some (.int _)) dX6_pivot_39 ⟨rfl, _, rfl, rfl⟩ (⟨⟨_, rfl, (j_rng _).1, (j_rng _).2, (by (try simp only [he37.eq, true_and, and_true]) <;> omega)⟩, rfl⟩)
      · refine J_aload dX6_pivot_25 rfl ?_
        refine J_get jf_X6_59 dX6_pivot_27 hO_ro hF_g ?_
        refine J_iload_n dX6_pivot_30 rfl ?_
        refine J_callS2 moX0_isTurn jw_ml_X6_78 jw_st_X0_isTurn dX6_pivot_31 (w_X0_isTurn_z (d - 1) _ g x3 (by omega)   (by omega) (by omega)) (by omega) (Nat.zero_le _) (Nat.zero_le _) (Nat.le_of_ble_eq_true rfl) (fun r31 V31 h31 => ?_)
        obtain ⟨⟨y31, rfl, hl31, hh31, hP31_0⟩, hE31⟩ := h31
        have hE31 := hE31.symm
        subst hE31
        refine Jz_if_ne (tgt := 40) jEq.rf dX6_pivot_34 (by decide) (fun c34 => ?_) (fun c34 => ?_)
        · exact False.elim (by omega)
        · refine Jz_bipush (-2) dX6_pivot_37 (by decide) (fun y37 he37 => ?_)
          exact J_ret (r := some (.int _)) dX6_pivot_39 ⟨rfl, _, rfl, rfl⟩ (⟨⟨_, rfl, (j_rng _).1, (j_rng _).2, (by (try simp only [he37.eq, true_and, and_true]) <;> omega)⟩, rfl⟩)
set_option maxRecDepth 100000 in
set_option maxHeartbeats 8000000 in
theorem w_X6_pivot_no {tS : jTS} (d : Nat) (V0 : jH) (a0 : Nat) (x1 : Int32) (x2 : Int32) (x3 : Int32) (k : Int32) (md : Nat) (tr : Nat) (f : Nat → Option Nat) (ro : Nat) (M : Int32) (g : Int32) (n : Int32) (s : Nat) (xx : Nat) (yy : Nat) (zz : Nat) (S : Nat → Int32) (X : Nat → Int32) (Y : Nat → Int32) (Z : Nat → Int32) (MT : Int32) (gT : Int32) (nT : Int32) (sT : Nat) (xxT : Nat) (yyT : Nat) (zzT : Nat) (ST : Nat → Int32) (XT : Nat → Int32) (YT : Nat → Int32) (ZT : Nat → Int32) (hd : 4 ≤ d) (hW : WT V0) (ha0 : jis V0 (.inr 4) a0) (hf_k : jfI V0 a0 4 1 k) (hr_md : jfR V0 a0 4 0 md) (hr_tr : jfR V0 a0 4 2 tr) (ha_f : V0 md = some (.inl (4, 16, .inr (.inr (.inr (.inr f)))))) (hf_M : jfI V0 ro 1 0 M) (hf_g : jfI V0 ro 1 5 g) (hf_n : jfI V0 ro 1 6 n) (hr_s : jfR V0 ro 1 1 s) (hr_xx : jfR V0 ro 1 2 xx) (hr_yy : jfR V0 ro 1 3 yy) (hr_zz : jfR V0 ro 1 4 zz) (ha_S : V0 s = some (.inl (6, 60, .inl S))) (ha_X : V0 xx = some (.inl (34, 61, .inl X))) (ha_Y : V0 yy = some (.inl (35, 61, .inl Y))) (ha_Z : V0 zz = some (.inl (36, 61, .inl Z))) (hm_ro : M.toInt = 60) (hn_ro : n.toInt ≤ 60) (hfo : f x1.toInt.toNat = some ro) (hf_MT : jfI V0 tr 1 0 MT) (hf_gT : jfI V0 tr 1 5 gT) (hf_nT : jfI V0 tr 1 6 nT) (hr_sT : jfR V0 tr 1 1 sT) (hr_xxT : jfR V0 tr 1 2 xxT) (hr_yyT : jfR V0 tr 1 3 yyT) (hr_zzT : jfR V0 tr 1 4 zzT) (ha_ST : V0 sT = some (.inl (6, 120, .inl ST))) (ha_XT : V0 xxT = some (.inl (34, 121, .inl XT))) (ha_YT : V0 yyT = some (.inl (35, 121, .inl YT))) (ha_ZT : V0 zzT = some (.inl (36, 121, .inl ZT))) (hm_tr : MT.toInt = 120) (hn_tr : nT.toInt ≤ 120) (hAB : ∀ b ∈ [ro, s, xx, yy, zz], b ∉ [tr, sT, xxT, yyT, zzT]) (hBA : ∀ b ∈ [tr, sT, xxT, yyT, zzT], b ∉ [ro, s, xx, yy, zz]) (hp0 : 0 ≤ x1.toInt) (hp1 : x1.toInt < k.toInt) (hp2 : 0 ≤ g.toInt) (hp3 : g.toInt ≤ 3) (hp4 : 0 ≤ x2.toInt) (hp5 : x2.toInt ≤ n.toInt) (hp6 : 0 ≤ x3.toInt) (hp7 : x3.toInt < jtur g.toInt) (hp8 : ∀ j : Nat, (j : Int) < n.toInt → 0 ≤ (S j).toInt ∧ (S j).toInt < jdir g.toInt) (hp9 : (XT 0).toInt = 0) (hp10 : (YT 0).toInt = 0) (hp11 : (ZT 0).toInt = 0) (hp12 : ¬ jav g.toInt (jTp g.toInt x3.toInt x2.toInt (fun q => (S q).toInt)) n.toInt.toNat) : jTot tS mX6_pivot d [.ref a0, .int x1, .int x2, .int x3] V0 0 0 (fun r V => (jPost [.inr 1, .inl 6, .inl 34, .inl 35, .inl 36] V0 (fun r _ => ∃ y : Int32, r = some (.int y) ∧ ((-2147483648) ≤ y.toInt) ∧ (y.toInt ≤ 2147483647) ∧ (y.toInt = -3))) r V ∧ (∃ (g2 n2 : Int) (S2 X2 Y2 Z2 : Nat → Int32), jrw V tr sT xxT yyT zzT 120 g2 n2 S2 X2 Y2 Z2 ∧ (X2 0).toInt = 0 ∧ (Y2 0).toInt = 0 ∧ (Z2 0).toInt = 0) ∧ jfp [tr, sT, xxT, yyT, zzT] V0 V) := by
  refine jTot.of_J [some (.ref a0), some (.int x1), some (.int x2), some (.int x3), none, none, none] moX6_pivot (Nat.le_of_ble_eq_true rfl) rfl ?_
  have hrx1 := j_rng x1
  have hrx2 := j_rng x2
  have hrx3 := j_rng x3
  have he : jeff [.inr 1, .inl 6, .inl 34, .inl 35, .inl 36] V0 V0 := jeff.refl _ _
  have hfp : jfp [tr, sT, xxT, yyT, zzT] V0 V0 := jfp.rf
  obtain ⟨fs_a0, hO_a0, hK_a0⟩ := WT_obj hW id ha0
  have hF_k := hf_k.get hO_a0
  have hrk : 0 ≤ k.toInt ∧ k.toInt ≤ 16 := jok_rngI hK_a0 rfl hF_k
  have hF_md := hr_md.get hO_a0
  obtain ⟨w_md, hFq_md, b_md, hbq_md, hb_md⟩ := hK_a0.2 0 (.inr (some (.inl 4))) rfl
  cases hF_md.symm.trans (hFq_md.trans (congrArg some hbq_md))
  have hF_tr := hr_tr.get hO_a0
  obtain ⟨w_tr, hFq_tr, b_tr, hbq_tr, hb_tr⟩ := hK_a0.2 2 (.inr (some (.inr 1))) rfl
  cases hF_tr.symm.trans (hFq_tr.trans (congrArg some hbq_tr))
  have hb_ro : jis V0 (.inr 1) ro := by obtain ⟨q1, q2, q3⟩ := hf_M; exact ⟨_, q2, rfl⟩
  obtain ⟨fs_ro, hO_ro, hK_ro⟩ := WT_obj hW id hb_ro
  have hF_M := hf_M.get hO_ro
  have hrM : 0 ≤ M.toInt ∧ M.toInt ≤ 120 := jok_rngI hK_ro rfl hF_M
  have hF_g := hf_g.get hO_ro
  have hrg : (-2147483648) ≤ g.toInt ∧ g.toInt ≤ 2147483647 := jok_rngI hK_ro rfl hF_g
  have hF_n := hf_n.get hO_ro
  have hrn : 0 ≤ n.toInt ∧ n.toInt ≤ 120 := jok_rngI hK_ro rfl hF_n
  have hF_s := hr_s.get hO_ro
  have hb_s : jis V0 (.inl 6) s := ⟨_, ha_S, rfl⟩
  obtain ⟨hN_S, hv_S⟩ := WT_rngI (r := (-2147483648, 2147483647)) hW id rfl ha_S
  clear hN_S
  have hF_xx := hr_xx.get hO_ro
  have hb_xx : jis V0 (.inl 34) xx := ⟨_, ha_X, rfl⟩
  obtain ⟨hN_X, hv_X⟩ := WT_rngI (r := (-2147483648, 2147483647)) hW id rfl ha_X
  clear hN_X
  have hF_yy := hr_yy.get hO_ro
  have hb_yy : jis V0 (.inl 35) yy := ⟨_, ha_Y, rfl⟩
  obtain ⟨hN_Y, hv_Y⟩ := WT_rngI (r := (-2147483648, 2147483647)) hW id rfl ha_Y
  clear hN_Y
  have hF_zz := hr_zz.get hO_ro
  have hb_zz : jis V0 (.inl 36) zz := ⟨_, ha_Z, rfl⟩
  obtain ⟨hN_Z, hv_Z⟩ := WT_rngI (r := (-2147483648, 2147483647)) hW id rfl ha_Z
  clear hN_Z
  obtain ⟨fs_tr, hO_tr, hK_tr⟩ := WT_obj hW id hb_tr
  have hF_MT := hf_MT.get hO_tr
  have hrMT : 0 ≤ MT.toInt ∧ MT.toInt ≤ 120 := jok_rngI hK_tr rfl hF_MT
  have hF_gT := hf_gT.get hO_tr
  have hrgT : (-2147483648) ≤ gT.toInt ∧ gT.toInt ≤ 2147483647 := jok_rngI hK_tr rfl hF_gT
  have hF_nT := hf_nT.get hO_tr
  have hrnT : 0 ≤ nT.toInt ∧ nT.toInt ≤ 120 := jok_rngI hK_tr rfl hF_nT
  have hF_sT := hr_sT.get hO_tr
  have hb_sT : jis V0 (.inl 6) sT := ⟨_, ha_ST, rfl⟩
  obtain ⟨hN_ST, hv_ST⟩ := WT_rngI (r := (-2147483648, 2147483647)) hW id rfl ha_ST
  clear hN_ST
  have hF_xxT := hr_xxT.get hO_tr
  have hb_xxT : jis V0 (.inl 34) xxT := ⟨_, ha_XT, rfl⟩
  obtain ⟨hN_XT, hv_XT⟩ := WT_rngI (r := (-2147483648, 2147483647)) hW id rfl ha_XT
  clear hN_XT
  have hF_yyT := hr_yyT.get hO_tr
  have hb_yyT : jis V0 (.inl 35) yyT := ⟨_, ha_YT, rfl⟩
  obtain ⟨hN_YT, hv_YT⟩ := WT_rngI (r := (-2147483648, 2147483647)) hW id rfl ha_YT
  clear hN_YT
  have hF_zzT := hr_zzT.get hO_tr
  have hb_zzT : jis V0 (.inl 36) zzT := ⟨_, ha_ZT, rfl⟩
  obtain ⟨hN_ZT, hv_ZT⟩ := WT_rngI (r := (-2147483648, 2147483647)) hW id rfl ha_ZT
  clear hN_ZT
  refine J_aload_n dX6_pivot_0 rfl ?_
  refine J_iload_n dX6_pivot_1 rfl ?_
  refine Jw_callV1 (q9 := (RX6, TX6, 7)) moX6_rowOf jw_ml_X6_55 jw_im_X6_rowOf jw_se_X6_rowOf ha0 rfl rfl dX6_pivot_2 (w_X6_rowOf_in (d - 1) _ a0 x1 hO_a0 hF_md hF_k ha_f (by omega) (by omega) (by omega) hfo) (by omega) (Nat.zero_le _) (Nat.zero_le _) (Nat.le_of_ble_eq_true rfl) (fun r2 V2 h2 => ?_)
  obtain ⟨rfl, hE2⟩ := h2
  have hE2 := hE2.symm
  subst hE2
  · refine J_astore dX6_pivot_5 rfl (by decide) ?_
    refine J_aload dX6_pivot_7 rfl ?_
    refine J_ifnull dX6_pivot_9 ?_
    refine J_iload_n dX6_pivot_12 rfl ?_
    refine Jz_if_lt (tgt := 37) jEq.rf dX6_pivot_13 (by decide) (fun c13 => ?_) (fun c13 => ?_)
    · exact False.elim (by omega)
    · refine J_iload_n dX6_pivot_16 rfl ?_
      refine J_aload dX6_pivot_17 rfl ?_
      refine J_get jf_X6_69 dX6_pivot_19 hO_ro hF_n ?_
      refine Jz_icmp_gt (tgt := 37) jEq.rf jEq.rf dX6_pivot_22 (by decide) (fun c22 => ?_) (fun c22 => ?_)
      · exact False.elim (by omega)
      · refine J_aload dX6_pivot_25 rfl ?_
        refine J_get jf_X6_59 dX6_pivot_27 hO_ro hF_g ?_
        refine J_iload_n dX6_pivot_30 rfl ?_
        refine J_callS2 moX0_isTurn jw_ml_X6_78 jw_st_X0_isTurn dX6_pivot_31 (w_X0_isTurn_z (d - 1) _ g x3 (by omega)   (by omega) (by omega)) (by omega) (Nat.zero_le _) (Nat.zero_le _) (Nat.le_of_ble_eq_true rfl) (fun r31 V31 h31 => ?_)
        obtain ⟨⟨y31, rfl, hl31, hh31, hP31_0⟩, hE31⟩ := h31
        have hE31 := hE31.symm
        subst hE31
        refine Jz_if_ne (tgt := 40) jEq.rf dX6_pivot_34 (by decide) (fun c34 => ?_) (fun c34 => ?_)
        · refine J_aload_n dX6_pivot_40 rfl ?_
          refine J_get jf_X6_22 dX6_pivot_41 hO_a0 hF_tr ?_
          refine J_aload dX6_pivot_44 rfl ?_
          refine J_get jf_X6_59 dX6_pivot_46 hO_ro hF_g ?_
          have hz0 := hp9
          have hz1 := hp10
          have hz2 := hp11
          have hdc := jdir_cases g.toInt
          have htc := jtur_cases g.toInt
          refine Jw_callV1 (q9 := (RX3, TX3, 7)) moX3_begin jw_ml_X6_52 jw_im_X3_begin jw_se_X3_begin hb_tr rfl rfl dX6_pivot_49 (w_X3_begin_z (d - 1) _ tr g MT (by omega) hW  hb_tr ⟨_, hO_tr, hF_MT⟩) (by omega) (Nat.zero_le _) (Nat.zero_le _) (Nat.le_of_ble_eq_true rfl) (fun r49 V49 h49 => ?_)
          obtain ⟨h49, hX49_0, ⟨fv49_0, hfv49_0, hfp49_0⟩, ⟨fv49_1, hfv49_1, hfp49_1⟩, ⟨fv49_2, hfv49_2, hfp49_2⟩⟩ := h49
          obtain ⟨hW, hx49, hr49⟩ := h49
          have he := he.trans (hx49.sub (jsub_of rfl))
          have hfp := hfp.trans (hX49_0.sub (fun b hb => by simp only [List.mem_cons, List.not_mem_nil, or_false] at hb ⊢; omega))
          have ha0 := ha0.mono hx49.1
          have hb_md := hb_md.mono hx49.1
          have hb_tr := hb_tr.mono hx49.1
          have hb_ro := hb_ro.mono hx49.1
          have hb_s := hb_s.mono hx49.1
          have hb_xx := hb_xx.mono hx49.1
          have hb_yy := hb_yy.mono hx49.1
          have hb_zz := hb_zz.mono hx49.1
          have hb_sT := hb_sT.mono hx49.1
          have hb_xxT := hb_xxT.mono hx49.1
          have hb_yyT := hb_yyT.mono hx49.1
          have hb_zzT := hb_zzT.mono hx49.1
          have hO_a0 := hx49.2 _ _ hO_a0 (jnot_of rfl)
          have hK_a0 := hK_a0.mono hx49.1
          have hO_ro := (hX49_0 ro (fun q => hAB ro List.mem_cons_self (List.mem_cons.mpr (Or.inl (List.mem_singleton.mp q))))).trans hO_ro
          have hK_ro := hK_ro.mono hx49.1
          obtain ⟨fs49tr, hOfs49tr, hRfs49tr⟩ := hx49.1.keep hO_tr
          have hKfs49tr : jokO _ (jFs 1) fs49tr := hW _ _ id hOfs49tr
          have hFfs49tr_1 := hRfs49tr _ _ hF_sT
          have hFfs49tr_2 := hRfs49tr _ _ hF_xxT
          have hFfs49tr_3 := hRfs49tr _ _ hF_yyT
          have hFfs49tr_4 := hRfs49tr _ _ hF_zzT
          have ha_S := (hX49_0 s (fun q => hAB s (List.mem_cons_of_mem _ List.mem_cons_self) (List.mem_cons.mpr (Or.inl (List.mem_singleton.mp q))))).trans ha_S
          have ha_X := (hX49_0 xx (fun q => hAB xx (List.mem_cons_of_mem _ (List.mem_cons_of_mem _ List.mem_cons_self)) (List.mem_cons.mpr (Or.inl (List.mem_singleton.mp q))))).trans ha_X
          have ha_Y := (hX49_0 yy (fun q => hAB yy (List.mem_cons_of_mem _ (List.mem_cons_of_mem _ (List.mem_cons_of_mem _ List.mem_cons_self))) (List.mem_cons.mpr (Or.inl (List.mem_singleton.mp q))))).trans ha_Y
          have ha_Z := (hX49_0 zz (fun q => hAB zz (List.mem_cons_of_mem _ (List.mem_cons_of_mem _ (List.mem_cons_of_mem _ (List.mem_cons_of_mem _ List.mem_cons_self)))) (List.mem_cons.mpr (Or.inl (List.mem_singleton.mp q))))).trans ha_Z
          have ha_ST := hx49.2 _ _ ha_ST (jnot_of rfl)
          have ha_XT := hx49.2 _ _ ha_XT (jnot_of rfl)
          have ha_YT := hx49.2 _ _ ha_YT (jnot_of rfl)
          have ha_ZT := hx49.2 _ _ ha_ZT (jnot_of rfl)
          cases hr49
          have hFv49_0 := hfv49_0.get hOfs49tr
          have hsb49_0 : MT = fv49_0 := (jI_inj.mp hfp49_0).symm
          subst hsb49_0
          have hFv49_1 := hfv49_1.get hOfs49tr
          have hsb49_1 : g = fv49_1 := (jI_inj.mp hfp49_1).symm
          subst hsb49_1
          have hFv49_2 := hfv49_2.get hOfs49tr
          have hzf49_2 : jEq fv49_2.toInt (0) := hfp49_2
          clear hfp49_2
          refine Jz_iconst 0 dX6_pivot_52 (by decide) (fun y52 he52 => ?_)
          refine J_istore dX6_pivot_53 rfl (by decide) ?_
          have L55 : ∀ (N : Nat) (V : jH) (i5n55 : Int32) (gs55tr : List Value) (g6n55 : Int32) (F6n55 : Nat → Int32) (F34n55 : Nat → Int32) (F35n55 : Nat → Int32) (F36n55 : Nat → Int32), WT V → jeff [.inr 1, .inl 6, .inl 34, .inl 35, .inl 36] V0 V → (jis V (.inr 4) a0) → (jis V (.inl 4) md) → (jis V (.inr 1) tr) → (jis V (.inr 1) ro) → (jis V (.inl 6) s) → (jis V (.inl 34) xx) → (jis V (.inl 35) yy) → (jis V (.inl 36) zz) → (jis V (.inl 6) sT) → (jis V (.inl 34) xxT) → (jis V (.inl 35) yyT) → (jis V (.inl 36) zzT) → (jfp [tr, sT, xxT, yyT, zzT] V0 V) → (V a0 = some (.inr (4, fs_a0))) → (jokO V (jFs 4) fs_a0) → (V ro = some (.inr (1, fs_ro))) → (jokO V (jFs 1) fs_ro) → (V tr = some (.inr (1, gs55tr))) → (gs55tr[1]? = some (.ref sT)) → (gs55tr[2]? = some (.ref xxT)) → (gs55tr[3]? = some (.ref yyT)) → (gs55tr[4]? = some (.ref zzT)) → (gs55tr[0]? = some (.int MT)) → (gs55tr[5]? = some (.int g)) → (gs55tr[6]? = some (.int g6n55)) → (V sT = some (.inl (6, 120, .inl F6n55))) → (V xxT = some (.inl (34, 121, .inl F34n55))) → (V yyT = some (.inl (35, 121, .inl F35n55))) → (V zzT = some (.inl (36, 121, .inl F36n55))) → (V s = some (.inl (6, 60, .inl S))) → (V xx = some (.inl (34, 61, .inl X))) → (V yy = some (.inl (35, 61, .inl Y))) → (V zz = some (.inl (36, 61, .inl Z))) → (0 ≤ i5n55.toInt ∧ i5n55.toInt ≤ n.toInt) → (g6n55.toInt = i5n55.toInt) → (∀ j : Nat, (j : Int) < g6n55.toInt → (F6n55 j).toInt = (jTp g.toInt x3.toInt x2.toInt (fun q => (S q).toInt)) j) → (jrv g.toInt (jTp g.toInt x3.toInt x2.toInt (fun q => (S q).toInt)) g6n55.toInt.toNat F34n55 F35n55 F36n55) → (jav g.toInt (jTp g.toInt x3.toInt x2.toInt (fun q => (S q).toInt)) g6n55.toInt.toNat) → (300 - i5n55.toInt).toNat < N → J tS mX6_pivot d 55 [some (.ref a0), some (.int x1), some (.int x2), some (.int x3), some (.ref ro), some (.int i5n55), none] [] V 0 0 (fun r V => (jPost [.inr 1, .inl 6, .inl 34, .inl 35, .inl 36] V0 (fun r _ => ∃ y : Int32, r = some (.int y) ∧ ((-2147483648) ≤ y.toInt) ∧ (y.toInt ≤ 2147483647) ∧ (y.toInt = -3))) r V ∧ (∃ (g2 n2 : Int) (S2 X2 Y2 Z2 : Nat → Int32), jrw V tr sT xxT yyT zzT 120 g2 n2 S2 X2 Y2 Z2 ∧ (X2 0).toInt = 0 ∧ (Y2 0).toInt = 0 ∧ (Z2 0).toInt = 0) ∧ jfp [tr, sT, xxT, yyT, zzT] V0 V) := by
            intro N
            induction N with
            | zero => intro V i5n55 gs55tr g6n55 F6n55 F34n55 F35n55 F36n55 hW he ha0 hb_md hb_tr hb_ro hb_s hb_xx hb_yy hb_zz hb_sT hb_xxT hb_yyT hb_zzT hfp hO_a0 hK_a0 hO_ro hK_ro hOgs55tr hFgs55tr_1 hFgs55tr_2 hFgs55tr_3 hFgs55tr_4 hFgs55tr_0 hFgs55tr_5 hFgs55tr_6 hAF6n55 hAF34n55 hAF35n55 hAF36n55 ha_S ha_X ha_Y ha_Z hi htn hts hjv hav hm; exact absurd hm (Nat.not_lt_zero _)
            | succ N ih =>
              intro V i5n55 gs55tr g6n55 F6n55 F34n55 F35n55 F36n55 hW he ha0 hb_md hb_tr hb_ro hb_s hb_xx hb_yy hb_zz hb_sT hb_xxT hb_yyT hb_zzT hfp hO_a0 hK_a0 hO_ro hK_ro hOgs55tr hFgs55tr_1 hFgs55tr_2 hFgs55tr_3 hFgs55tr_4 hFgs55tr_0 hFgs55tr_5 hFgs55tr_6 hAF6n55 hAF34n55 hAF35n55 hAF36n55 ha_S ha_X ha_Y ha_Z hi htn hts hjv hav hm
              have ih55 := ih
              have hri5 := j_rng i5n55
              have hKgs55tr : jokO V (jFs 1) gs55tr := hW _ _ id hOgs55tr
              have hrgg6n55 : 0 ≤ g6n55.toInt ∧ g6n55.toInt ≤ 120 := jok_rngI hKgs55tr rfl hFgs55tr_6
              obtain ⟨hNF6n55, hvF6n55⟩ := WT_rngI (r := ((-2147483648), 2147483647)) hW id rfl hAF6n55
              clear hNF6n55
              obtain ⟨hNF34n55, hvF34n55⟩ := WT_rngI (r := ((-2147483648), 2147483647)) hW id rfl hAF34n55
              clear hNF34n55
              obtain ⟨hNF35n55, hvF35n55⟩ := WT_rngI (r := ((-2147483648), 2147483647)) hW id rfl hAF35n55
              clear hNF35n55
              obtain ⟨hNF36n55, hvF36n55⟩ := WT_rngI (r := ((-2147483648), 2147483647)) hW id rfl hAF36n55
              clear hNF36n55
              refine J_iload dX6_pivot_55 rfl ?_
              refine J_aload dX6_pivot_57 rfl ?_
              refine J_get jf_X6_69 dX6_pivot_59 hO_ro hF_n ?_
              refine Jz_icmp_ge (tgt := 115) jEq.rf jEq.rf dX6_pivot_62 (by decide) (fun c62 => ?_) (fun c62 => ?_)
              · exact False.elim (hp12 (by rw [show n.toInt.toNat = g6n55.toInt.toNat by omega]; exact hav))
              · refine J_aload dX6_pivot_65 rfl ?_
                refine J_iload dX6_pivot_67 rfl ?_
                refine Jw_callV1 (q9 := (RX3, TX3, 7)) moX3_direction jw_ml_X6_81 jw_im_X3_direction jw_se_X3_direction hb_ro rfl rfl dX6_pivot_69 (w_X3_direction_z (d - 1) _ ro i5n55 s S (by omega) hW  hb_ro ⟨_, hO_ro, hF_s⟩ ha_S (by omega) (by omega) (by omega)) (by omega) (Nat.zero_le _) (Nat.zero_le _) (Nat.le_of_ble_eq_true rfl) (fun r69 V69 h69 => ?_)
                obtain ⟨⟨y69, rfl, hl69, hh69, hP69_0⟩, hE69⟩ := h69
                have hE69 := hE69.symm
                subst hE69
                clear hl69 hh69
                have hz69 : jEq y69.toInt ((S (i5n55.toInt).toNat).toInt) := hP69_0
                clear hP69_0
                have hsd := hp8 i5n55.toInt.toNat (by omega)
                refine J_istore dX6_pivot_72 rfl (by decide) ?_
                refine J_aload_n dX6_pivot_74 rfl ?_
                refine J_get jf_X6_22 dX6_pivot_75 hO_a0 hF_tr ?_
                refine J_iload dX6_pivot_78 rfl ?_
                refine J_iload_n dX6_pivot_80 rfl ?_
                refine Jz_icmp_ge (tgt := 89) jEq.rf jEq.rf dX6_pivot_81 (by decide) (fun c81 => ?_) (fun c81 => ?_)
                · refine J_aload dX6_pivot_89 rfl ?_
                  refine J_get jf_X6_59 dX6_pivot_91 hO_ro hF_g ?_
                  refine J_iload_n dX6_pivot_94 rfl ?_
                  refine J_iload dX6_pivot_95 rfl ?_
                  refine J_callS3 moX0_turned jw_ml_X6_85 jw_st_X0_turned dX6_pivot_97 (w_X0_turned_z (d - 1) _ g x3 y69 (by omega)   (by omega) (by omega) (by omega) (by omega) (by (try simp only [hz69.eq, true_and, and_true]) <;> omega) (by (try simp only [hz69.eq, true_and, and_true]) <;> omega)) (by omega) (Nat.zero_le _) (Nat.zero_le _) (Nat.le_of_ble_eq_true rfl) (fun r97 V97 h97 => ?_)
                  obtain ⟨⟨y97, rfl, hl97, hh97, hP97_0⟩, hE97⟩ := h97
                  have hE97 := hE97.symm
                  subst hE97
                  clear hl97 hh97
                  try simp only [hz69.eq] at hP97_0
                  have hz97 : jEq y97.toInt (jtn (g.toInt) (x3.toInt) ((S (i5n55.toInt).toNat).toInt)) := hP97_0
                  clear hP97_0
                  have htb := jtn_b (g := g.toInt) (t := x3.toInt) (d := (S i5n55.toInt.toNat).toInt) (by omega) (by omega) (by omega) (by omega) (by omega) (by omega)
                  have htp : (jTp g.toInt x3.toInt x2.toInt (fun q => (S q).toInt)) g6n55.toInt.toNat = y97.toInt := (by unfold jTp; first | (rw [if_pos (by omega), htn]; exact (hz97.eq).symm) | (rw [if_neg (by omega), htn]; exact (hz97.eq).symm))
                  have hbx := hjv.b g6n55.toInt.toNat (Nat.le_refl _)
                  by_cases hcc : jav g.toInt (jTp g.toInt x3.toInt x2.toInt (fun q => (S q).toInt)) (g6n55.toInt.toNat + 1)
                  · refine Jw_callV1 (q9 := (RX3, TX3, 7)) moX3_lay jw_ml_X6_72 jw_im_X3_lay jw_se_X3_lay hb_tr rfl rfl dX6_pivot_100 (w_X3_lay_yes (d - 1) _ tr y97 MT g g6n55 sT xxT yyT zzT F6n55 F34n55 F35n55 F36n55 (by omega) hW  hb_tr ⟨_, hOgs55tr, hFgs55tr_0⟩ ⟨_, hOgs55tr, hFgs55tr_5⟩ ⟨_, hOgs55tr, hFgs55tr_6⟩ ⟨_, hOgs55tr, hFgs55tr_1⟩ ⟨_, hOgs55tr, hFgs55tr_2⟩ ⟨_, hOgs55tr, hFgs55tr_3⟩ ⟨_, hOgs55tr, hFgs55tr_4⟩ hAF6n55 hAF34n55 hAF35n55 hAF36n55 (by omega) (by omega) (by omega) (by omega) (by omega) (by first | omega | (simp only [hz97.eq]; omega)) (by first | omega | (simp only [hz97.eq]; omega)) (by omega) (by omega) (by omega) (by omega) (by omega) (by omega) (by omega) (fun j hj q => (jav_succ.mp hcc).2 j (by omega) ((hjv.next (by omega)).mpr (by rw [htp]; exact q)))) (by omega) (Nat.zero_le _) (Nat.zero_le _) (Nat.le_of_ble_eq_true rfl) (fun r100 V100 h100 => ?_)
                    obtain ⟨h100, hX100_0, hX100_1, hX100_2, hX100_3, hX100_4, ⟨fv100_0, hfv100_0, hfp100_0⟩, ⟨fv100_1, hfv100_1, hfp100_1⟩, ⟨fv100_2, hfv100_2, hfp100_2⟩⟩ := h100
                    obtain ⟨hW, hx100, hr100⟩ := h100
                    have he := he.trans (hx100.sub (jsub_of rfl))
                    have hfp := hfp.trans (hX100_4.sub (fun b hb => by simp only [List.mem_cons, List.not_mem_nil, or_false] at hb ⊢; omega))
                    have ha0 := ha0.mono hx100.1
                    have hb_md := hb_md.mono hx100.1
                    have hb_tr := hb_tr.mono hx100.1
                    have hb_ro := hb_ro.mono hx100.1
                    have hb_s := hb_s.mono hx100.1
                    have hb_xx := hb_xx.mono hx100.1
                    have hb_yy := hb_yy.mono hx100.1
                    have hb_zz := hb_zz.mono hx100.1
                    have hb_sT := hb_sT.mono hx100.1
                    have hb_xxT := hb_xxT.mono hx100.1
                    have hb_yyT := hb_yyT.mono hx100.1
                    have hb_zzT := hb_zzT.mono hx100.1
                    have hO_a0 := hx100.2 _ _ hO_a0 (jnot_of rfl)
                    have hK_a0 := hK_a0.mono hx100.1
                    have hO_ro := (hX100_4 ro (hAB ro List.mem_cons_self)).trans hO_ro
                    have hK_ro := hK_ro.mono hx100.1
                    obtain ⟨fs100tr, hOfs100tr, hRfs100tr⟩ := hx100.1.keep hOgs55tr
                    have hKfs100tr : jokO _ (jFs 1) fs100tr := hW _ _ id hOfs100tr
                    have hFfs100tr_1 := hRfs100tr _ _ hFgs55tr_1
                    have hFfs100tr_2 := hRfs100tr _ _ hFgs55tr_2
                    have hFfs100tr_3 := hRfs100tr _ _ hFgs55tr_3
                    have hFfs100tr_4 := hRfs100tr _ _ hFgs55tr_4
                    have ha_S := (hX100_4 s (hAB s (List.mem_cons_of_mem _ List.mem_cons_self))).trans ha_S
                    have ha_X := (hX100_4 xx (hAB xx (List.mem_cons_of_mem _ (List.mem_cons_of_mem _ List.mem_cons_self)))).trans ha_X
                    have ha_Y := (hX100_4 yy (hAB yy (List.mem_cons_of_mem _ (List.mem_cons_of_mem _ (List.mem_cons_of_mem _ List.mem_cons_self))))).trans ha_Y
                    have ha_Z := (hX100_4 zz (hAB zz (List.mem_cons_of_mem _ (List.mem_cons_of_mem _ (List.mem_cons_of_mem _ (List.mem_cons_of_mem _ List.mem_cons_self)))))).trans ha_Z
                    obtain ⟨y100, rfl, hl100, hh100, hP100_0⟩ := hr100
                    try simp only [hz97.eq] at hP100_0
                    have hFv100_0 := hfv100_0.get hOfs100tr
                    try simp only [hz97.eq] at hfp100_0
                    have hzf100_0 : jEq fv100_0.toInt ((g6n55.toInt) + 1) := hfp100_0
                    clear hfp100_0
                    have hFv100_1 := hfv100_1.get hOfs100tr
                    try simp only [hz97.eq] at hfp100_1
                    have hsb100_1 : MT = fv100_1 := (jI_inj.mp hfp100_1).symm
                    subst hsb100_1
                    have hFv100_2 := hfv100_2.get hOfs100tr
                    try simp only [hz97.eq] at hfp100_2
                    have hsb100_2 : g = fv100_2 := (jI_inj.mp hfp100_2).symm
                    subst hsb100_2
                    obtain ⟨S100, hS100, hSn100, hSo100⟩ := hX100_0
                    obtain ⟨X100, hXa100, hXn100, hXo100⟩ := hX100_1
                    obtain ⟨Y100, hYa100, hYn100, hYo100⟩ := hX100_2
                    obtain ⟨Z100, hZa100, hZn100, hZo100⟩ := hX100_3
                    obtain ⟨hN_S100, hv_S100⟩ := WT_rngI (r := ((-2147483648), 2147483647)) hW id rfl hS100
                    clear hN_S100
                    obtain ⟨hN_X100, hv_X100⟩ := WT_rngI (r := ((-2147483648), 2147483647)) hW id rfl hXa100
                    clear hN_X100
                    obtain ⟨hN_Y100, hv_Y100⟩ := WT_rngI (r := ((-2147483648), 2147483647)) hW id rfl hYa100
                    clear hN_Y100
                    obtain ⟨hN_Z100, hv_Z100⟩ := WT_rngI (r := ((-2147483648), 2147483647)) hW id rfl hZa100
                    clear hN_Z100
                    refine Jz_if_ne (tgt := 109) jEq.rf dX6_pivot_103 (by decide) (fun c103 => ?_) (fun c103 => ?_)
                    · refine Jz_iinc 1 dX6_pivot_109 rfl rfl (by decide) jEq.rf (by decide) (by omega) (by omega) (fun y109 he109 => ?_)
                      refine J_goto (tgt := 55) dX6_pivot_112 (by decide) ?_
                      refine J.mask [true, true, true, true, true, true, false] ?_
                      exact ih55 _ y109 fs100tr fv100_0 S100 X100 Y100 Z100 hW he ha0 hb_md hb_tr hb_ro hb_s hb_xx hb_yy hb_zz hb_sT hb_xxT hb_yyT hb_zzT hfp hO_a0 hK_a0 hO_ro hK_ro hOfs100tr hFfs100tr_1 hFfs100tr_2 hFfs100tr_3 hFfs100tr_4 hFv100_1 hFv100_2 hFv100_0 hS100 hXa100 hYa100 hZa100 ha_S ha_X ha_Y ha_Z (by (try simp only [he109.eq, hzf100_0.eq, true_and, and_true]) <;> omega) (by (try simp only [he109.eq, hzf100_0.eq, true_and, and_true]) <;> omega) (fun j hj => by rw [hzf100_0.eq] at hj; by_cases c : (j : Int) = g6n55.toInt; (have e : j = g6n55.toInt.toNat := by omega); subst e; rw [hSn100, htp]; rw [hSo100 j (by omega)]; exact hts j (by omega)) (by rw [hzf100_0.eq, show (g6n55.toInt + 1).toNat = g6n55.toInt.toNat + 1 by omega]; exact hjv.lay (by rw [hXn100, htp]) (by rw [hYn100, htp]) (by rw [hZn100, htp]) hXo100 hYo100 hZo100) (by rw [hzf100_0.eq, show (g6n55.toInt + 1).toNat = g6n55.toInt.toNat + 1 by omega]; exact hcc) (by (try simp only [he109.eq, hzf100_0.eq, true_and, and_true]) <;> omega)
                    · exact False.elim (by omega)
                  · refine Jw_callV1 (q9 := (RX3, TX3, 7)) moX3_lay jw_ml_X6_72 jw_im_X3_lay jw_se_X3_lay hb_tr rfl rfl dX6_pivot_100 (w_X3_lay_no (d - 1) _ tr y97 MT g g6n55 sT xxT yyT zzT F6n55 F34n55 F35n55 F36n55 (by omega) hW  hb_tr ⟨_, hOgs55tr, hFgs55tr_0⟩ ⟨_, hOgs55tr, hFgs55tr_5⟩ ⟨_, hOgs55tr, hFgs55tr_6⟩ ⟨_, hOgs55tr, hFgs55tr_1⟩ ⟨_, hOgs55tr, hFgs55tr_2⟩ ⟨_, hOgs55tr, hFgs55tr_3⟩ ⟨_, hOgs55tr, hFgs55tr_4⟩ hAF6n55 hAF34n55 hAF35n55 hAF36n55 (by omega) (by omega) (by omega) (by omega) (by omega) (by first | omega | (simp only [hz97.eq]; omega)) (by first | omega | (simp only [hz97.eq]; omega)) (by omega) (by omega) (by omega) (by omega) (by omega) (by omega) (Or.inr (by obtain ⟨i, h1, h2⟩ := jav_not hav hcc; exact ⟨i, by omega, by have q := (hjv.next h1).mp h2; rw [htp] at q; exact q⟩))) (by omega) (Nat.zero_le _) (Nat.zero_le _) (Nat.le_of_ble_eq_true rfl) (fun r100 V100 h100 => ?_)
                    obtain ⟨⟨y100, rfl, hl100, hh100, hP100_0⟩, hE100⟩ := h100
                    have hE100 := hE100.symm
                    subst hE100
                    try simp only [hz97.eq] at hP100_0
                    refine Jz_if_ne (tgt := 109) jEq.rf dX6_pivot_103 (by decide) (fun c103 => ?_) (fun c103 => ?_)
                    · exact False.elim (by omega)
                    · refine Jz_bipush (-3) dX6_pivot_106 (by decide) (fun y106 he106 => ?_)
                      exact J_ret (r := some (.int _)) dX6_pivot_108 ⟨rfl, _, rfl, rfl⟩ (⟨⟨hW, he, ⟨_, rfl, (j_rng _).1, (j_rng _).2, (by (try simp only [he106.eq, true_and, and_true]) <;> omega)⟩⟩, ⟨_, _, _, _, _, _, ⟨⟨_, ⟨_, hOgs55tr, hFgs55tr_0⟩, hm_tr⟩, ⟨_, ⟨_, hOgs55tr, hFgs55tr_5⟩, rfl⟩, ⟨_, ⟨_, hOgs55tr, hFgs55tr_6⟩, rfl⟩, ⟨_, hOgs55tr, hFgs55tr_1⟩, ⟨_, hOgs55tr, hFgs55tr_2⟩, ⟨_, hOgs55tr, hFgs55tr_3⟩, ⟨_, hOgs55tr, hFgs55tr_4⟩, hAF6n55, hAF34n55, hAF35n55, hAF36n55⟩, (hjv 0 (Nat.zero_le _))⟩, hfp⟩)
                · refine J_iload dX6_pivot_84 rfl ?_
                  refine J_goto (tgt := 100) dX6_pivot_86 (by decide) ?_
                  have htp : (jTp g.toInt x3.toInt x2.toInt (fun q => (S q).toInt)) g6n55.toInt.toNat = y69.toInt := (by unfold jTp; first | (rw [if_pos (by omega), htn]; exact (hz69.eq).symm) | (rw [if_neg (by omega), htn]; exact (hz69.eq).symm))
                  have hbx := hjv.b g6n55.toInt.toNat (Nat.le_refl _)
                  by_cases hcc : jav g.toInt (jTp g.toInt x3.toInt x2.toInt (fun q => (S q).toInt)) (g6n55.toInt.toNat + 1)
                  · refine Jw_callV1 (q9 := (RX3, TX3, 7)) moX3_lay jw_ml_X6_72 jw_im_X3_lay jw_se_X3_lay hb_tr rfl rfl dX6_pivot_100 (w_X3_lay_yes (d - 1) _ tr y69 MT g g6n55 sT xxT yyT zzT F6n55 F34n55 F35n55 F36n55 (by omega) hW  hb_tr ⟨_, hOgs55tr, hFgs55tr_0⟩ ⟨_, hOgs55tr, hFgs55tr_5⟩ ⟨_, hOgs55tr, hFgs55tr_6⟩ ⟨_, hOgs55tr, hFgs55tr_1⟩ ⟨_, hOgs55tr, hFgs55tr_2⟩ ⟨_, hOgs55tr, hFgs55tr_3⟩ ⟨_, hOgs55tr, hFgs55tr_4⟩ hAF6n55 hAF34n55 hAF35n55 hAF36n55 (by omega) (by omega) (by omega) (by omega) (by omega) (by first | omega | (simp only [hz69.eq]; omega)) (by first | omega | (simp only [hz69.eq]; omega)) (by omega) (by omega) (by omega) (by omega) (by omega) (by omega) (by omega) (fun j hj q => (jav_succ.mp hcc).2 j (by omega) ((hjv.next (by omega)).mpr (by rw [htp]; exact q)))) (by omega) (Nat.zero_le _) (Nat.zero_le _) (Nat.le_of_ble_eq_true rfl) (fun r100 V100 h100 => ?_)
                    obtain ⟨h100, hX100_0, hX100_1, hX100_2, hX100_3, hX100_4, ⟨fv100_0, hfv100_0, hfp100_0⟩, ⟨fv100_1, hfv100_1, hfp100_1⟩, ⟨fv100_2, hfv100_2, hfp100_2⟩⟩ := h100
                    obtain ⟨hW, hx100, hr100⟩ := h100
                    have he := he.trans (hx100.sub (jsub_of rfl))
                    have hfp := hfp.trans (hX100_4.sub (fun b hb => by simp only [List.mem_cons, List.not_mem_nil, or_false] at hb ⊢; omega))
                    have ha0 := ha0.mono hx100.1
                    have hb_md := hb_md.mono hx100.1
                    have hb_tr := hb_tr.mono hx100.1
                    have hb_ro := hb_ro.mono hx100.1
                    have hb_s := hb_s.mono hx100.1
                    have hb_xx := hb_xx.mono hx100.1
                    have hb_yy := hb_yy.mono hx100.1
                    have hb_zz := hb_zz.mono hx100.1
                    have hb_sT := hb_sT.mono hx100.1
                    have hb_xxT := hb_xxT.mono hx100.1
                    have hb_yyT := hb_yyT.mono hx100.1
                    have hb_zzT := hb_zzT.mono hx100.1
                    have hO_a0 := hx100.2 _ _ hO_a0 (jnot_of rfl)
                    have hK_a0 := hK_a0.mono hx100.1
                    have hO_ro := (hX100_4 ro (hAB ro List.mem_cons_self)).trans hO_ro
                    have hK_ro := hK_ro.mono hx100.1
                    obtain ⟨fs100tr, hOfs100tr, hRfs100tr⟩ := hx100.1.keep hOgs55tr
                    have hKfs100tr : jokO _ (jFs 1) fs100tr := hW _ _ id hOfs100tr
                    have hFfs100tr_1 := hRfs100tr _ _ hFgs55tr_1
                    have hFfs100tr_2 := hRfs100tr _ _ hFgs55tr_2
                    have hFfs100tr_3 := hRfs100tr _ _ hFgs55tr_3
                    have hFfs100tr_4 := hRfs100tr _ _ hFgs55tr_4
                    have ha_S := (hX100_4 s (hAB s (List.mem_cons_of_mem _ List.mem_cons_self))).trans ha_S
                    have ha_X := (hX100_4 xx (hAB xx (List.mem_cons_of_mem _ (List.mem_cons_of_mem _ List.mem_cons_self)))).trans ha_X
                    have ha_Y := (hX100_4 yy (hAB yy (List.mem_cons_of_mem _ (List.mem_cons_of_mem _ (List.mem_cons_of_mem _ List.mem_cons_self))))).trans ha_Y
                    have ha_Z := (hX100_4 zz (hAB zz (List.mem_cons_of_mem _ (List.mem_cons_of_mem _ (List.mem_cons_of_mem _ (List.mem_cons_of_mem _ List.mem_cons_self)))))).trans ha_Z
                    obtain ⟨y100, rfl, hl100, hh100, hP100_0⟩ := hr100
                    try simp only [hz69.eq] at hP100_0
                    have hFv100_0 := hfv100_0.get hOfs100tr
                    try simp only [hz69.eq] at hfp100_0
                    have hzf100_0 : jEq fv100_0.toInt ((g6n55.toInt) + 1) := hfp100_0
                    clear hfp100_0
                    have hFv100_1 := hfv100_1.get hOfs100tr
                    try simp only [hz69.eq] at hfp100_1
                    have hsb100_1 : MT = fv100_1 := (jI_inj.mp hfp100_1).symm
                    subst hsb100_1
                    have hFv100_2 := hfv100_2.get hOfs100tr
                    try simp only [hz69.eq] at hfp100_2
                    have hsb100_2 : g = fv100_2 := (jI_inj.mp hfp100_2).symm
                    subst hsb100_2
                    obtain ⟨S100, hS100, hSn100, hSo100⟩ := hX100_0
                    obtain ⟨X100, hXa100, hXn100, hXo100⟩ := hX100_1
                    obtain ⟨Y100, hYa100, hYn100, hYo100⟩ := hX100_2
                    obtain ⟨Z100, hZa100, hZn100, hZo100⟩ := hX100_3
                    obtain ⟨hN_S100, hv_S100⟩ := WT_rngI (r := ((-2147483648), 2147483647)) hW id rfl hS100
                    clear hN_S100
                    obtain ⟨hN_X100, hv_X100⟩ := WT_rngI (r := ((-2147483648), 2147483647)) hW id rfl hXa100
                    clear hN_X100
                    obtain ⟨hN_Y100, hv_Y100⟩ := WT_rngI (r := ((-2147483648), 2147483647)) hW id rfl hYa100
                    clear hN_Y100
                    obtain ⟨hN_Z100, hv_Z100⟩ := WT_rngI (r := ((-2147483648), 2147483647)) hW id rfl hZa100
                    clear hN_Z100
                    refine Jz_if_ne (tgt := 109) jEq.rf dX6_pivot_103 (by decide) (fun c103 => ?_) (fun c103 => ?_)
                    · refine Jz_iinc 1 dX6_pivot_109 rfl rfl (by decide) jEq.rf (by decide) (by omega) (by omega) (fun y109 he109 => ?_)
                      refine J_goto (tgt := 55) dX6_pivot_112 (by decide) ?_
                      refine J.mask [true, true, true, true, true, true, false] ?_
                      exact ih55 _ y109 fs100tr fv100_0 S100 X100 Y100 Z100 hW he ha0 hb_md hb_tr hb_ro hb_s hb_xx hb_yy hb_zz hb_sT hb_xxT hb_yyT hb_zzT hfp hO_a0 hK_a0 hO_ro hK_ro hOfs100tr hFfs100tr_1 hFfs100tr_2 hFfs100tr_3 hFfs100tr_4 hFv100_1 hFv100_2 hFv100_0 hS100 hXa100 hYa100 hZa100 ha_S ha_X ha_Y ha_Z (by (try simp only [he109.eq, hzf100_0.eq, true_and, and_true]) <;> omega) (by (try simp only [he109.eq, hzf100_0.eq, true_and, and_true]) <;> omega) (fun j hj => by rw [hzf100_0.eq] at hj; by_cases c : (j : Int) = g6n55.toInt; (have e : j = g6n55.toInt.toNat := by omega); subst e; rw [hSn100, htp]; rw [hSo100 j (by omega)]; exact hts j (by omega)) (by rw [hzf100_0.eq, show (g6n55.toInt + 1).toNat = g6n55.toInt.toNat + 1 by omega]; exact hjv.lay (by rw [hXn100, htp]) (by rw [hYn100, htp]) (by rw [hZn100, htp]) hXo100 hYo100 hZo100) (by rw [hzf100_0.eq, show (g6n55.toInt + 1).toNat = g6n55.toInt.toNat + 1 by omega]; exact hcc) (by (try simp only [he109.eq, hzf100_0.eq, true_and, and_true]) <;> omega)
                    · exact False.elim (by omega)
                  · refine Jw_callV1 (q9 := (RX3, TX3, 7)) moX3_lay jw_ml_X6_72 jw_im_X3_lay jw_se_X3_lay hb_tr rfl rfl dX6_pivot_100 (w_X3_lay_no (d - 1) _ tr y69 MT g g6n55 sT xxT yyT zzT F6n55 F34n55 F35n55 F36n55 (by omega) hW  hb_tr ⟨_, hOgs55tr, hFgs55tr_0⟩ ⟨_, hOgs55tr, hFgs55tr_5⟩ ⟨_, hOgs55tr, hFgs55tr_6⟩ ⟨_, hOgs55tr, hFgs55tr_1⟩ ⟨_, hOgs55tr, hFgs55tr_2⟩ ⟨_, hOgs55tr, hFgs55tr_3⟩ ⟨_, hOgs55tr, hFgs55tr_4⟩ hAF6n55 hAF34n55 hAF35n55 hAF36n55 (by omega) (by omega) (by omega) (by omega) (by omega) (by first | omega | (simp only [hz69.eq]; omega)) (by first | omega | (simp only [hz69.eq]; omega)) (by omega) (by omega) (by omega) (by omega) (by omega) (by omega) (Or.inr (by obtain ⟨i, h1, h2⟩ := jav_not hav hcc; exact ⟨i, by omega, by have q := (hjv.next h1).mp h2; rw [htp] at q; exact q⟩))) (by omega) (Nat.zero_le _) (Nat.zero_le _) (Nat.le_of_ble_eq_true rfl) (fun r100 V100 h100 => ?_)
                    obtain ⟨⟨y100, rfl, hl100, hh100, hP100_0⟩, hE100⟩ := h100
                    have hE100 := hE100.symm
                    subst hE100
                    try simp only [hz69.eq] at hP100_0
                    refine Jz_if_ne (tgt := 109) jEq.rf dX6_pivot_103 (by decide) (fun c103 => ?_) (fun c103 => ?_)
                    · exact False.elim (by omega)
                    · refine Jz_bipush (-3) dX6_pivot_106 (by decide) (fun y106 he106 => ?_)
                      exact J_ret (r := some (.int _)) dX6_pivot_108 ⟨rfl, _, rfl, rfl⟩ (⟨⟨hW, he, ⟨_, rfl, (j_rng _).1, (j_rng _).2, (by (try simp only [he106.eq, true_and, and_true]) <;> omega)⟩⟩, ⟨_, _, _, _, _, _, ⟨⟨_, ⟨_, hOgs55tr, hFgs55tr_0⟩, hm_tr⟩, ⟨_, ⟨_, hOgs55tr, hFgs55tr_5⟩, rfl⟩, ⟨_, ⟨_, hOgs55tr, hFgs55tr_6⟩, rfl⟩, ⟨_, hOgs55tr, hFgs55tr_1⟩, ⟨_, hOgs55tr, hFgs55tr_2⟩, ⟨_, hOgs55tr, hFgs55tr_3⟩, ⟨_, hOgs55tr, hFgs55tr_4⟩, hAF6n55, hAF34n55, hAF35n55, hAF36n55⟩, (hjv 0 (Nat.zero_le _))⟩, hfp⟩)
          refine J.mask [true, true, true, true, true, true, false] ?_
          exact L55 _ _ y52 fs49tr fv49_2 ST XT YT ZT hW he ha0 hb_md hb_tr hb_ro hb_s hb_xx hb_yy hb_zz hb_sT hb_xxT hb_yyT hb_zzT hfp hO_a0 hK_a0 hO_ro hK_ro hOfs49tr hFfs49tr_1 hFfs49tr_2 hFfs49tr_3 hFfs49tr_4 hFv49_0 hFv49_1 hFv49_2 ha_ST ha_XT ha_YT ha_ZT ha_S ha_X ha_Y ha_Z (by (try simp only [he52.eq, hzf49_2.eq, true_and, and_true]) <;> omega) (by (try simp only [he52.eq, hzf49_2.eq, true_and, and_true]) <;> omega) (fun j hj => by rw [hzf49_2.eq] at hj; omega) (by rw [hzf49_2.eq]; intro i hi; rw [show i = 0 by omega]; exact ⟨hz0, hz1, hz2⟩) (by rw [hzf49_2.eq]; exact jav.zero) (Nat.lt_succ_self _)
        · exact False.elim (by omega)
set_option maxRecDepth 100000 in
set_option maxHeartbeats 8000000 in
theorem w_X6_pivot_ok {tS : jTS} (d : Nat) (V0 : jH) (a0 : Nat) (x1 : Int32) (x2 : Int32) (x3 : Int32) (k : Int32) (md : Nat) (tr : Nat) (f : Nat → Option Nat) (ro : Nat) (M : Int32) (g : Int32) (n : Int32) (s : Nat) (xx : Nat) (yy : Nat) (zz : Nat) (S : Nat → Int32) (X : Nat → Int32) (Y : Nat → Int32) (Z : Nat → Int32) (MT : Int32) (gT : Int32) (nT : Int32) (sT : Nat) (xxT : Nat) (yyT : Nat) (zzT : Nat) (ST : Nat → Int32) (XT : Nat → Int32) (YT : Nat → Int32) (ZT : Nat → Int32) (hd : 4 ≤ d) (hW : WT V0) (ha0 : jis V0 (.inr 4) a0) (hf_k : jfI V0 a0 4 1 k) (hr_md : jfR V0 a0 4 0 md) (hr_tr : jfR V0 a0 4 2 tr) (ha_f : V0 md = some (.inl (4, 16, .inr (.inr (.inr (.inr f)))))) (hf_M : jfI V0 ro 1 0 M) (hf_g : jfI V0 ro 1 5 g) (hf_n : jfI V0 ro 1 6 n) (hr_s : jfR V0 ro 1 1 s) (hr_xx : jfR V0 ro 1 2 xx) (hr_yy : jfR V0 ro 1 3 yy) (hr_zz : jfR V0 ro 1 4 zz) (ha_S : V0 s = some (.inl (6, 60, .inl S))) (ha_X : V0 xx = some (.inl (34, 61, .inl X))) (ha_Y : V0 yy = some (.inl (35, 61, .inl Y))) (ha_Z : V0 zz = some (.inl (36, 61, .inl Z))) (hm_ro : M.toInt = 60) (hn_ro : n.toInt ≤ 60) (hfo : f x1.toInt.toNat = some ro) (hf_MT : jfI V0 tr 1 0 MT) (hf_gT : jfI V0 tr 1 5 gT) (hf_nT : jfI V0 tr 1 6 nT) (hr_sT : jfR V0 tr 1 1 sT) (hr_xxT : jfR V0 tr 1 2 xxT) (hr_yyT : jfR V0 tr 1 3 yyT) (hr_zzT : jfR V0 tr 1 4 zzT) (ha_ST : V0 sT = some (.inl (6, 120, .inl ST))) (ha_XT : V0 xxT = some (.inl (34, 121, .inl XT))) (ha_YT : V0 yyT = some (.inl (35, 121, .inl YT))) (ha_ZT : V0 zzT = some (.inl (36, 121, .inl ZT))) (hm_tr : MT.toInt = 120) (hn_tr : nT.toInt ≤ 120) (hAB : ∀ b ∈ [ro, s, xx, yy, zz], b ∉ [tr, sT, xxT, yyT, zzT]) (hBA : ∀ b ∈ [tr, sT, xxT, yyT, zzT], b ∉ [ro, s, xx, yy, zz]) (hp0 : 0 ≤ x1.toInt) (hp1 : x1.toInt < k.toInt) (hp2 : 0 ≤ g.toInt) (hp3 : g.toInt ≤ 3) (hp4 : 0 ≤ x2.toInt) (hp5 : x2.toInt ≤ n.toInt) (hp6 : 0 ≤ x3.toInt) (hp7 : x3.toInt < jtur g.toInt) (hp8 : ∀ j : Nat, (j : Int) < n.toInt → 0 ≤ (S j).toInt ∧ (S j).toInt < jdir g.toInt) (hp9 : (XT 0).toInt = 0) (hp10 : (YT 0).toInt = 0) (hp11 : (ZT 0).toInt = 0) (hp12 : jav g.toInt (jTp g.toInt x3.toInt x2.toInt (fun q => (S q).toInt)) n.toInt.toNat) : jTot tS mX6_pivot d [.ref a0, .int x1, .int x2, .int x3] V0 0 0 (fun r V => (jPost [.inr 1, .inl 6, .inl 34, .inl 35, .inl 36] V0 (fun r _ => ∃ y : Int32, r = some (.int y) ∧ ((-2147483648) ≤ y.toInt) ∧ (y.toInt ≤ 2147483647) ∧ (y.toInt = 1))) r V ∧ (∃ S2 X2 Y2 Z2 : Nat → Int32, jrw V ro s xx yy zz 60 g.toInt (n.toInt) S2 X2 Y2 Z2 ∧ (∀ j : Nat, (j : Int) < n.toInt → (S2 j).toInt = (jTp g.toInt x3.toInt x2.toInt (fun q => (S q).toInt)) j) ∧ jrv g.toInt (jTp g.toInt x3.toInt x2.toInt (fun q => (S q).toInt)) (n.toInt).toNat X2 Y2 Z2) ∧ (∃ (g2 n2 : Int) (S2 X2 Y2 Z2 : Nat → Int32), jrw V tr sT xxT yyT zzT 120 g2 n2 S2 X2 Y2 Z2 ∧ (X2 0).toInt = 0 ∧ (Y2 0).toInt = 0 ∧ (Z2 0).toInt = 0) ∧ jfp [ro, s, xx, yy, zz, tr, sT, xxT, yyT, zzT] V0 V) := by
  refine jTot.of_J [some (.ref a0), some (.int x1), some (.int x2), some (.int x3), none, none, none] moX6_pivot (Nat.le_of_ble_eq_true rfl) rfl ?_
  have hrx1 := j_rng x1
  have hrx2 := j_rng x2
  have hrx3 := j_rng x3
  have he : jeff [.inr 1, .inl 6, .inl 34, .inl 35, .inl 36] V0 V0 := jeff.refl _ _
  have hfp : jfp [ro, s, xx, yy, zz, tr, sT, xxT, yyT, zzT] V0 V0 := jfp.rf
  obtain ⟨fs_a0, hO_a0, hK_a0⟩ := WT_obj hW id ha0
  have hF_k := hf_k.get hO_a0
  have hrk : 0 ≤ k.toInt ∧ k.toInt ≤ 16 := jok_rngI hK_a0 rfl hF_k
  have hF_md := hr_md.get hO_a0
  obtain ⟨w_md, hFq_md, b_md, hbq_md, hb_md⟩ := hK_a0.2 0 (.inr (some (.inl 4))) rfl
  cases hF_md.symm.trans (hFq_md.trans (congrArg some hbq_md))
  have hF_tr := hr_tr.get hO_a0
  obtain ⟨w_tr, hFq_tr, b_tr, hbq_tr, hb_tr⟩ := hK_a0.2 2 (.inr (some (.inr 1))) rfl
  cases hF_tr.symm.trans (hFq_tr.trans (congrArg some hbq_tr))
  have hb_ro : jis V0 (.inr 1) ro := by obtain ⟨q1, q2, q3⟩ := hf_M; exact ⟨_, q2, rfl⟩
  obtain ⟨fs_ro, hO_ro, hK_ro⟩ := WT_obj hW id hb_ro
  have hF_M := hf_M.get hO_ro
  have hrM : 0 ≤ M.toInt ∧ M.toInt ≤ 120 := jok_rngI hK_ro rfl hF_M
  have hF_g := hf_g.get hO_ro
  have hrg : (-2147483648) ≤ g.toInt ∧ g.toInt ≤ 2147483647 := jok_rngI hK_ro rfl hF_g
  have hF_n := hf_n.get hO_ro
  have hrn : 0 ≤ n.toInt ∧ n.toInt ≤ 120 := jok_rngI hK_ro rfl hF_n
  have hF_s := hr_s.get hO_ro
  have hb_s : jis V0 (.inl 6) s := ⟨_, ha_S, rfl⟩
  obtain ⟨hN_S, hv_S⟩ := WT_rngI (r := (-2147483648, 2147483647)) hW id rfl ha_S
  clear hN_S
  have hF_xx := hr_xx.get hO_ro
  have hb_xx : jis V0 (.inl 34) xx := ⟨_, ha_X, rfl⟩
  obtain ⟨hN_X, hv_X⟩ := WT_rngI (r := (-2147483648, 2147483647)) hW id rfl ha_X
  clear hN_X
  have hF_yy := hr_yy.get hO_ro
  have hb_yy : jis V0 (.inl 35) yy := ⟨_, ha_Y, rfl⟩
  obtain ⟨hN_Y, hv_Y⟩ := WT_rngI (r := (-2147483648, 2147483647)) hW id rfl ha_Y
  clear hN_Y
  have hF_zz := hr_zz.get hO_ro
  have hb_zz : jis V0 (.inl 36) zz := ⟨_, ha_Z, rfl⟩
  obtain ⟨hN_Z, hv_Z⟩ := WT_rngI (r := (-2147483648, 2147483647)) hW id rfl ha_Z
  clear hN_Z
  obtain ⟨fs_tr, hO_tr, hK_tr⟩ := WT_obj hW id hb_tr
  have hF_MT := hf_MT.get hO_tr
  have hrMT : 0 ≤ MT.toInt ∧ MT.toInt ≤ 120 := jok_rngI hK_tr rfl hF_MT
  have hF_gT := hf_gT.get hO_tr
  have hrgT : (-2147483648) ≤ gT.toInt ∧ gT.toInt ≤ 2147483647 := jok_rngI hK_tr rfl hF_gT
  have hF_nT := hf_nT.get hO_tr
  have hrnT : 0 ≤ nT.toInt ∧ nT.toInt ≤ 120 := jok_rngI hK_tr rfl hF_nT
  have hF_sT := hr_sT.get hO_tr
  have hb_sT : jis V0 (.inl 6) sT := ⟨_, ha_ST, rfl⟩
  obtain ⟨hN_ST, hv_ST⟩ := WT_rngI (r := (-2147483648, 2147483647)) hW id rfl ha_ST
  clear hN_ST
  have hF_xxT := hr_xxT.get hO_tr
  have hb_xxT : jis V0 (.inl 34) xxT := ⟨_, ha_XT, rfl⟩
  obtain ⟨hN_XT, hv_XT⟩ := WT_rngI (r := (-2147483648, 2147483647)) hW id rfl ha_XT
  clear hN_XT
  have hF_yyT := hr_yyT.get hO_tr
  have hb_yyT : jis V0 (.inl 35) yyT := ⟨_, ha_YT, rfl⟩
  obtain ⟨hN_YT, hv_YT⟩ := WT_rngI (r := (-2147483648, 2147483647)) hW id rfl ha_YT
  clear hN_YT
  have hF_zzT := hr_zzT.get hO_tr
  have hb_zzT : jis V0 (.inl 36) zzT := ⟨_, ha_ZT, rfl⟩
  obtain ⟨hN_ZT, hv_ZT⟩ := WT_rngI (r := (-2147483648, 2147483647)) hW id rfl ha_ZT
  clear hN_ZT
  refine J_aload_n dX6_pivot_0 rfl ?_
  refine J_iload_n dX6_pivot_1 rfl ?_
  refine Jw_callV1 (q9 := (RX6, TX6, 7)) moX6_rowOf jw_ml_X6_55 jw_im_X6_rowOf jw_se_X6_rowOf ha0 rfl rfl dX6_pivot_2 (w_X6_rowOf_in (d - 1) _ a0 x1 hO_a0 hF_md hF_k ha_f (by omega) (by omega) (by omega) hfo) (by omega) (Nat.zero_le _) (Nat.zero_le _) (Nat.le_of_ble_eq_true rfl) (fun r2 V2 h2 => ?_)
  obtain ⟨rfl, hE2⟩ := h2
  have hE2 := hE2.symm
  subst hE2
  · refine J_astore dX6_pivot_5 rfl (by decide) ?_
    refine J_aload dX6_pivot_7 rfl ?_
    refine J_ifnull dX6_pivot_9 ?_
    refine J_iload_n dX6_pivot_12 rfl ?_
    refine Jz_if_lt (tgt := 37) jEq.rf dX6_pivot_13 (by decide) (fun c13 => ?_) (fun c13 => ?_)
    · exact False.elim (by omega)
    · refine J_iload_n dX6_pivot_16 rfl ?_
      refine J_aload dX6_pivot_17 rfl ?_
      refine J_get jf_X6_69 dX6_pivot_19 hO_ro hF_n ?_
      refine Jz_icmp_gt (tgt := 37) jEq.rf jEq.rf dX6_pivot_22 (by decide) (fun c22 => ?_) (fun c22 => ?_)
      · exact False.elim (by omega)
      · refine J_aload dX6_pivot_25 rfl ?_
        refine J_get jf_X6_59 dX6_pivot_27 hO_ro hF_g ?_
        refine J_iload_n dX6_pivot_30 rfl ?_
        refine J_callS2 moX0_isTurn jw_ml_X6_78 jw_st_X0_isTurn dX6_pivot_31 (w_X0_isTurn_z (d - 1) _ g x3 (by omega)   (by omega) (by omega)) (by omega) (Nat.zero_le _) (Nat.zero_le _) (Nat.le_of_ble_eq_true rfl) (fun r31 V31 h31 => ?_)
        obtain ⟨⟨y31, rfl, hl31, hh31, hP31_0⟩, hE31⟩ := h31
        have hE31 := hE31.symm
        subst hE31
        refine Jz_if_ne (tgt := 40) jEq.rf dX6_pivot_34 (by decide) (fun c34 => ?_) (fun c34 => ?_)
        · refine J_aload_n dX6_pivot_40 rfl ?_
          refine J_get jf_X6_22 dX6_pivot_41 hO_a0 hF_tr ?_
          refine J_aload dX6_pivot_44 rfl ?_
          refine J_get jf_X6_59 dX6_pivot_46 hO_ro hF_g ?_
          have hz0 := hp9
          have hz1 := hp10
          have hz2 := hp11
          have hdc := jdir_cases g.toInt
          have htc := jtur_cases g.toInt
          refine Jw_callV1 (q9 := (RX3, TX3, 7)) moX3_begin jw_ml_X6_52 jw_im_X3_begin jw_se_X3_begin hb_tr rfl rfl dX6_pivot_49 (w_X3_begin_z (d - 1) _ tr g MT (by omega) hW  hb_tr ⟨_, hO_tr, hF_MT⟩) (by omega) (Nat.zero_le _) (Nat.zero_le _) (Nat.le_of_ble_eq_true rfl) (fun r49 V49 h49 => ?_)
          obtain ⟨h49, hX49_0, ⟨fv49_0, hfv49_0, hfp49_0⟩, ⟨fv49_1, hfv49_1, hfp49_1⟩, ⟨fv49_2, hfv49_2, hfp49_2⟩⟩ := h49
          obtain ⟨hW, hx49, hr49⟩ := h49
          have he := he.trans (hx49.sub (jsub_of rfl))
          have hfp := hfp.trans (hX49_0.sub (fun b hb => by simp only [List.mem_cons, List.not_mem_nil, or_false] at hb ⊢; omega))
          have ha0 := ha0.mono hx49.1
          have hb_md := hb_md.mono hx49.1
          have hb_tr := hb_tr.mono hx49.1
          have hb_ro := hb_ro.mono hx49.1
          have hb_s := hb_s.mono hx49.1
          have hb_xx := hb_xx.mono hx49.1
          have hb_yy := hb_yy.mono hx49.1
          have hb_zz := hb_zz.mono hx49.1
          have hb_sT := hb_sT.mono hx49.1
          have hb_xxT := hb_xxT.mono hx49.1
          have hb_yyT := hb_yyT.mono hx49.1
          have hb_zzT := hb_zzT.mono hx49.1
          have hO_a0 := hx49.2 _ _ hO_a0 (jnot_of rfl)
          have hK_a0 := hK_a0.mono hx49.1
          have hO_ro := (hX49_0 ro (fun q => hAB ro List.mem_cons_self (List.mem_cons.mpr (Or.inl (List.mem_singleton.mp q))))).trans hO_ro
          have hK_ro := hK_ro.mono hx49.1
          obtain ⟨fs49tr, hOfs49tr, hRfs49tr⟩ := hx49.1.keep hO_tr
          have hKfs49tr : jokO _ (jFs 1) fs49tr := hW _ _ id hOfs49tr
          have hFfs49tr_1 := hRfs49tr _ _ hF_sT
          have hFfs49tr_2 := hRfs49tr _ _ hF_xxT
          have hFfs49tr_3 := hRfs49tr _ _ hF_yyT
          have hFfs49tr_4 := hRfs49tr _ _ hF_zzT
          have ha_S := (hX49_0 s (fun q => hAB s (List.mem_cons_of_mem _ List.mem_cons_self) (List.mem_cons.mpr (Or.inl (List.mem_singleton.mp q))))).trans ha_S
          have ha_X := (hX49_0 xx (fun q => hAB xx (List.mem_cons_of_mem _ (List.mem_cons_of_mem _ List.mem_cons_self)) (List.mem_cons.mpr (Or.inl (List.mem_singleton.mp q))))).trans ha_X
          have ha_Y := (hX49_0 yy (fun q => hAB yy (List.mem_cons_of_mem _ (List.mem_cons_of_mem _ (List.mem_cons_of_mem _ List.mem_cons_self))) (List.mem_cons.mpr (Or.inl (List.mem_singleton.mp q))))).trans ha_Y
          have ha_Z := (hX49_0 zz (fun q => hAB zz (List.mem_cons_of_mem _ (List.mem_cons_of_mem _ (List.mem_cons_of_mem _ (List.mem_cons_of_mem _ List.mem_cons_self)))) (List.mem_cons.mpr (Or.inl (List.mem_singleton.mp q))))).trans ha_Z
          have ha_ST := hx49.2 _ _ ha_ST (jnot_of rfl)
          have ha_XT := hx49.2 _ _ ha_XT (jnot_of rfl)
          have ha_YT := hx49.2 _ _ ha_YT (jnot_of rfl)
          have ha_ZT := hx49.2 _ _ ha_ZT (jnot_of rfl)
          cases hr49
          have hFv49_0 := hfv49_0.get hOfs49tr
          have hsb49_0 : MT = fv49_0 := (jI_inj.mp hfp49_0).symm
          subst hsb49_0
          have hFv49_1 := hfv49_1.get hOfs49tr
          have hsb49_1 : g = fv49_1 := (jI_inj.mp hfp49_1).symm
          subst hsb49_1
          have hFv49_2 := hfv49_2.get hOfs49tr
          have hzf49_2 : jEq fv49_2.toInt (0) := hfp49_2
          clear hfp49_2
          refine Jz_iconst 0 dX6_pivot_52 (by decide) (fun y52 he52 => ?_)
          refine J_istore dX6_pivot_53 rfl (by decide) ?_
          have L55 : ∀ (N : Nat) (V : jH) (i5n55 : Int32) (gs55tr : List Value) (g6n55 : Int32) (F6n55 : Nat → Int32) (F34n55 : Nat → Int32) (F35n55 : Nat → Int32) (F36n55 : Nat → Int32), WT V → jeff [.inr 1, .inl 6, .inl 34, .inl 35, .inl 36] V0 V → (jis V (.inr 4) a0) → (jis V (.inl 4) md) → (jis V (.inr 1) tr) → (jis V (.inr 1) ro) → (jis V (.inl 6) s) → (jis V (.inl 34) xx) → (jis V (.inl 35) yy) → (jis V (.inl 36) zz) → (jis V (.inl 6) sT) → (jis V (.inl 34) xxT) → (jis V (.inl 35) yyT) → (jis V (.inl 36) zzT) → (jfp [ro, s, xx, yy, zz, tr, sT, xxT, yyT, zzT] V0 V) → (V a0 = some (.inr (4, fs_a0))) → (jokO V (jFs 4) fs_a0) → (V ro = some (.inr (1, fs_ro))) → (jokO V (jFs 1) fs_ro) → (V tr = some (.inr (1, gs55tr))) → (gs55tr[1]? = some (.ref sT)) → (gs55tr[2]? = some (.ref xxT)) → (gs55tr[3]? = some (.ref yyT)) → (gs55tr[4]? = some (.ref zzT)) → (gs55tr[0]? = some (.int MT)) → (gs55tr[5]? = some (.int g)) → (gs55tr[6]? = some (.int g6n55)) → (V sT = some (.inl (6, 120, .inl F6n55))) → (V xxT = some (.inl (34, 121, .inl F34n55))) → (V yyT = some (.inl (35, 121, .inl F35n55))) → (V zzT = some (.inl (36, 121, .inl F36n55))) → (V s = some (.inl (6, 60, .inl S))) → (V xx = some (.inl (34, 61, .inl X))) → (V yy = some (.inl (35, 61, .inl Y))) → (V zz = some (.inl (36, 61, .inl Z))) → (0 ≤ i5n55.toInt ∧ i5n55.toInt ≤ n.toInt) → (g6n55.toInt = i5n55.toInt) → (∀ j : Nat, (j : Int) < g6n55.toInt → (F6n55 j).toInt = (jTp g.toInt x3.toInt x2.toInt (fun q => (S q).toInt)) j) → (jrv g.toInt (jTp g.toInt x3.toInt x2.toInt (fun q => (S q).toInt)) g6n55.toInt.toNat F34n55 F35n55 F36n55) → (jav g.toInt (jTp g.toInt x3.toInt x2.toInt (fun q => (S q).toInt)) g6n55.toInt.toNat) → (300 - i5n55.toInt).toNat < N → J tS mX6_pivot d 55 [some (.ref a0), some (.int x1), some (.int x2), some (.int x3), some (.ref ro), some (.int i5n55), none] [] V 0 0 (fun r V => (jPost [.inr 1, .inl 6, .inl 34, .inl 35, .inl 36] V0 (fun r _ => ∃ y : Int32, r = some (.int y) ∧ ((-2147483648) ≤ y.toInt) ∧ (y.toInt ≤ 2147483647) ∧ (y.toInt = 1))) r V ∧ (∃ S2 X2 Y2 Z2 : Nat → Int32, jrw V ro s xx yy zz 60 g.toInt (n.toInt) S2 X2 Y2 Z2 ∧ (∀ j : Nat, (j : Int) < n.toInt → (S2 j).toInt = (jTp g.toInt x3.toInt x2.toInt (fun q => (S q).toInt)) j) ∧ jrv g.toInt (jTp g.toInt x3.toInt x2.toInt (fun q => (S q).toInt)) (n.toInt).toNat X2 Y2 Z2) ∧ (∃ (g2 n2 : Int) (S2 X2 Y2 Z2 : Nat → Int32), jrw V tr sT xxT yyT zzT 120 g2 n2 S2 X2 Y2 Z2 ∧ (X2 0).toInt = 0 ∧ (Y2 0).toInt = 0 ∧ (Z2 0).toInt = 0) ∧ jfp [ro, s, xx, yy, zz, tr, sT, xxT, yyT, zzT] V0 V) := by
            intro N
            induction N with
            | zero => intro V i5n55 gs55tr g6n55 F6n55 F34n55 F35n55 F36n55 hW he ha0 hb_md hb_tr hb_ro hb_s hb_xx hb_yy hb_zz hb_sT hb_xxT hb_yyT hb_zzT hfp hO_a0 hK_a0 hO_ro hK_ro hOgs55tr hFgs55tr_1 hFgs55tr_2 hFgs55tr_3 hFgs55tr_4 hFgs55tr_0 hFgs55tr_5 hFgs55tr_6 hAF6n55 hAF34n55 hAF35n55 hAF36n55 ha_S ha_X ha_Y ha_Z hi htn hts hjv hav hm; exact absurd hm (Nat.not_lt_zero _)
            | succ N ih =>
              intro V i5n55 gs55tr g6n55 F6n55 F34n55 F35n55 F36n55 hW he ha0 hb_md hb_tr hb_ro hb_s hb_xx hb_yy hb_zz hb_sT hb_xxT hb_yyT hb_zzT hfp hO_a0 hK_a0 hO_ro hK_ro hOgs55tr hFgs55tr_1 hFgs55tr_2 hFgs55tr_3 hFgs55tr_4 hFgs55tr_0 hFgs55tr_5 hFgs55tr_6 hAF6n55 hAF34n55 hAF35n55 hAF36n55 ha_S ha_X ha_Y ha_Z hi htn hts hjv hav hm
              have ih55 := ih
              have hri5 := j_rng i5n55
              have hKgs55tr : jokO V (jFs 1) gs55tr := hW _ _ id hOgs55tr
              have hrgg6n55 : 0 ≤ g6n55.toInt ∧ g6n55.toInt ≤ 120 := jok_rngI hKgs55tr rfl hFgs55tr_6
              obtain ⟨hNF6n55, hvF6n55⟩ := WT_rngI (r := ((-2147483648), 2147483647)) hW id rfl hAF6n55
              clear hNF6n55
              obtain ⟨hNF34n55, hvF34n55⟩ := WT_rngI (r := ((-2147483648), 2147483647)) hW id rfl hAF34n55
              clear hNF34n55
              obtain ⟨hNF35n55, hvF35n55⟩ := WT_rngI (r := ((-2147483648), 2147483647)) hW id rfl hAF35n55
              clear hNF35n55
              obtain ⟨hNF36n55, hvF36n55⟩ := WT_rngI (r := ((-2147483648), 2147483647)) hW id rfl hAF36n55
              clear hNF36n55
              refine J_iload dX6_pivot_55 rfl ?_
              refine J_aload dX6_pivot_57 rfl ?_
              refine J_get jf_X6_69 dX6_pivot_59 hO_ro hF_n ?_
              refine Jz_icmp_ge (tgt := 115) jEq.rf jEq.rf dX6_pivot_62 (by decide) (fun c62 => ?_) (fun c62 => ?_)
              · refine J_aload dX6_pivot_115 rfl ?_
                refine J_aload_n dX6_pivot_117 rfl ?_
                refine J_get jf_X6_22 dX6_pivot_118 hO_a0 hF_tr ?_
                have hfin : g6n55.toInt = n.toInt := by omega
                refine Jw_callV1 (q9 := (RX3, TX3, 7)) moX3_become jw_ml_X6_89 jw_im_X3_become jw_se_X3_become hb_ro rfl rfl dX6_pivot_121 (w_X3_become_z (d - 1) _ ro tr M g g6n55 s xx yy zz sT xxT yyT zzT S X Y Z F6n55 F34n55 F35n55 F36n55 (by omega) hW  hb_ro hb_tr ⟨_, hO_ro, hF_M⟩ ⟨_, hOgs55tr, hFgs55tr_5⟩ ⟨_, hOgs55tr, hFgs55tr_6⟩ ⟨_, hO_ro, hF_s⟩ ⟨_, hO_ro, hF_xx⟩ ⟨_, hO_ro, hF_yy⟩ ⟨_, hO_ro, hF_zz⟩ ⟨_, hOgs55tr, hFgs55tr_1⟩ ⟨_, hOgs55tr, hFgs55tr_2⟩ ⟨_, hOgs55tr, hFgs55tr_3⟩ ⟨_, hOgs55tr, hFgs55tr_4⟩ (fun e => hBA tr List.mem_cons_self (e ▸ List.mem_cons_self)) (fun e => hBA sT (List.mem_cons_of_mem _ List.mem_cons_self) (e ▸ (List.mem_cons_of_mem _ List.mem_cons_self))) (fun e => hBA xxT (List.mem_cons_of_mem _ (List.mem_cons_of_mem _ List.mem_cons_self)) (e ▸ (List.mem_cons_of_mem _ (List.mem_cons_of_mem _ List.mem_cons_self)))) (fun e => hBA yyT (List.mem_cons_of_mem _ (List.mem_cons_of_mem _ (List.mem_cons_of_mem _ List.mem_cons_self))) (e ▸ (List.mem_cons_of_mem _ (List.mem_cons_of_mem _ (List.mem_cons_of_mem _ List.mem_cons_self))))) (fun e => hBA zzT (List.mem_cons_of_mem _ (List.mem_cons_of_mem _ (List.mem_cons_of_mem _ (List.mem_cons_of_mem _ List.mem_cons_self)))) (e ▸ (List.mem_cons_of_mem _ (List.mem_cons_of_mem _ (List.mem_cons_of_mem _ (List.mem_cons_of_mem _ List.mem_cons_self)))))) ha_S ha_X ha_Y ha_Z hAF6n55 hAF34n55 hAF35n55 hAF36n55 (by omega) (by omega) (by omega) (by omega) (by omega)) (by omega) (Nat.zero_le _) (Nat.zero_le _) (Nat.le_of_ble_eq_true rfl) (fun r121 V121 h121 => ?_)
                obtain ⟨h121, hX121_0, hX121_1, hX121_2, hX121_3, hX121_4, ⟨fv121_0, hfv121_0, hfp121_0⟩, ⟨fv121_1, hfv121_1, hfp121_1⟩, ⟨fv121_2, hfv121_2, hfp121_2⟩⟩ := h121
                obtain ⟨hW, hx121, hr121⟩ := h121
                have he := he.trans (hx121.sub (jsub_of rfl))
                have hfp := hfp.trans (hX121_4.sub (fun b hb => by simp only [List.mem_cons, List.not_mem_nil, or_false] at hb ⊢; omega))
                have ha0 := ha0.mono hx121.1
                have hb_md := hb_md.mono hx121.1
                have hb_tr := hb_tr.mono hx121.1
                have hb_ro := hb_ro.mono hx121.1
                have hb_s := hb_s.mono hx121.1
                have hb_xx := hb_xx.mono hx121.1
                have hb_yy := hb_yy.mono hx121.1
                have hb_zz := hb_zz.mono hx121.1
                have hb_sT := hb_sT.mono hx121.1
                have hb_xxT := hb_xxT.mono hx121.1
                have hb_yyT := hb_yyT.mono hx121.1
                have hb_zzT := hb_zzT.mono hx121.1
                have hO_a0 := hx121.2 _ _ hO_a0 (jnot_of rfl)
                have hK_a0 := hK_a0.mono hx121.1
                obtain ⟨fs121ro, hOfs121ro, hRfs121ro⟩ := hx121.1.keep hO_ro
                have hKfs121ro : jokO _ (jFs 1) fs121ro := hW _ _ id hOfs121ro
                have hFfs121ro_1 := hRfs121ro _ _ hF_s
                have hFfs121ro_2 := hRfs121ro _ _ hF_xx
                have hFfs121ro_3 := hRfs121ro _ _ hF_yy
                have hFfs121ro_4 := hRfs121ro _ _ hF_zz
                have hOgs55tr := (hX121_4 tr (hBA tr List.mem_cons_self)).trans hOgs55tr
                have hKgs55tr := hKgs55tr.mono hx121.1
                have hAF6n55 := (hX121_4 sT (hBA sT (List.mem_cons_of_mem _ List.mem_cons_self))).trans hAF6n55
                have hAF34n55 := (hX121_4 xxT (hBA xxT (List.mem_cons_of_mem _ (List.mem_cons_of_mem _ List.mem_cons_self)))).trans hAF34n55
                have hAF35n55 := (hX121_4 yyT (hBA yyT (List.mem_cons_of_mem _ (List.mem_cons_of_mem _ (List.mem_cons_of_mem _ List.mem_cons_self))))).trans hAF35n55
                have hAF36n55 := (hX121_4 zzT (hBA zzT (List.mem_cons_of_mem _ (List.mem_cons_of_mem _ (List.mem_cons_of_mem _ (List.mem_cons_of_mem _ List.mem_cons_self)))))).trans hAF36n55
                cases hr121
                have hFv121_0 := hfv121_0.get hOfs121ro
                have hsb121_0 : M = fv121_0 := (jI_inj.mp hfp121_0).symm
                subst hsb121_0
                have hFv121_1 := hfv121_1.get hOfs121ro
                have hsb121_1 : g = fv121_1 := (jI_inj.mp hfp121_1).symm
                subst hsb121_1
                have hFv121_2 := hfv121_2.get hOfs121ro
                have hsb121_2 : g6n55 = fv121_2 := (jI_inj.mp hfp121_2).symm
                subst hsb121_2
                obtain ⟨S121, hS121, hSe121⟩ := hX121_0
                obtain ⟨X121, hXa121, hXe121⟩ := hX121_1
                obtain ⟨Y121, hYa121, hYe121⟩ := hX121_2
                obtain ⟨Z121, hZa121, hZe121⟩ := hX121_3
                obtain ⟨hN_S121, hv_S121⟩ := WT_rngI (r := ((-2147483648), 2147483647)) hW id rfl hS121
                clear hN_S121
                obtain ⟨hN_X121, hv_X121⟩ := WT_rngI (r := ((-2147483648), 2147483647)) hW id rfl hXa121
                clear hN_X121
                obtain ⟨hN_Y121, hv_Y121⟩ := WT_rngI (r := ((-2147483648), 2147483647)) hW id rfl hYa121
                clear hN_Y121
                obtain ⟨hN_Z121, hv_Z121⟩ := WT_rngI (r := ((-2147483648), 2147483647)) hW id rfl hZa121
                clear hN_Z121
                refine Jz_iconst 1 dX6_pivot_124 (by decide) (fun y124 he124 => ?_)
                exact J_ret (r := some (.int _)) dX6_pivot_125 ⟨rfl, _, rfl, rfl⟩ (⟨⟨hW, he, ⟨_, rfl, (j_rng _).1, (j_rng _).2, (by (try simp only [he124.eq, true_and, and_true]) <;> omega)⟩⟩, ⟨S121, X121, Y121, Z121, ⟨⟨_, ⟨_, hOfs121ro, hFv121_0⟩, hm_ro⟩, ⟨_, ⟨_, hOfs121ro, hFv121_1⟩, rfl⟩, ⟨_, ⟨_, hOfs121ro, hFv121_2⟩, hfin⟩, ⟨_, hOfs121ro, hFfs121ro_1⟩, ⟨_, hOfs121ro, hFfs121ro_2⟩, ⟨_, hOfs121ro, hFfs121ro_3⟩, ⟨_, hOfs121ro, hFfs121ro_4⟩, hS121, hXa121, hYa121, hZa121⟩, (fun j hj => by rw [hSe121 j (by omega)]; exact hts j (by omega)), (by rw [← hfin]; intro i hi; rw [hXe121 i (by omega), hYe121 i (by omega), hZe121 i (by omega)]; exact hjv i hi)⟩, ⟨_, _, _, _, _, _, ⟨⟨_, ⟨_, hOgs55tr, hFgs55tr_0⟩, hm_tr⟩, ⟨_, ⟨_, hOgs55tr, hFgs55tr_5⟩, rfl⟩, ⟨_, ⟨_, hOgs55tr, hFgs55tr_6⟩, rfl⟩, ⟨_, hOgs55tr, hFgs55tr_1⟩, ⟨_, hOgs55tr, hFgs55tr_2⟩, ⟨_, hOgs55tr, hFgs55tr_3⟩, ⟨_, hOgs55tr, hFgs55tr_4⟩, hAF6n55, hAF34n55, hAF35n55, hAF36n55⟩, (hjv 0 (Nat.zero_le _))⟩, hfp⟩)
              · refine J_aload dX6_pivot_65 rfl ?_
                refine J_iload dX6_pivot_67 rfl ?_
                refine Jw_callV1 (q9 := (RX3, TX3, 7)) moX3_direction jw_ml_X6_81 jw_im_X3_direction jw_se_X3_direction hb_ro rfl rfl dX6_pivot_69 (w_X3_direction_z (d - 1) _ ro i5n55 s S (by omega) hW  hb_ro ⟨_, hO_ro, hF_s⟩ ha_S (by omega) (by omega) (by omega)) (by omega) (Nat.zero_le _) (Nat.zero_le _) (Nat.le_of_ble_eq_true rfl) (fun r69 V69 h69 => ?_)
                obtain ⟨⟨y69, rfl, hl69, hh69, hP69_0⟩, hE69⟩ := h69
                have hE69 := hE69.symm
                subst hE69
                clear hl69 hh69
                have hz69 : jEq y69.toInt ((S (i5n55.toInt).toNat).toInt) := hP69_0
                clear hP69_0
                have hsd := hp8 i5n55.toInt.toNat (by omega)
                refine J_istore dX6_pivot_72 rfl (by decide) ?_
                refine J_aload_n dX6_pivot_74 rfl ?_
                refine J_get jf_X6_22 dX6_pivot_75 hO_a0 hF_tr ?_
                refine J_iload dX6_pivot_78 rfl ?_
                refine J_iload_n dX6_pivot_80 rfl ?_
                refine Jz_icmp_ge (tgt := 89) jEq.rf jEq.rf dX6_pivot_81 (by decide) (fun c81 => ?_) (fun c81 => ?_)
                · refine J_aload dX6_pivot_89 rfl ?_
                  refine J_get jf_X6_59 dX6_pivot_91 hO_ro hF_g ?_
                  refine J_iload_n dX6_pivot_94 rfl ?_
                  refine J_iload dX6_pivot_95 rfl ?_
                  refine J_callS3 moX0_turned jw_ml_X6_85 jw_st_X0_turned dX6_pivot_97 (w_X0_turned_z (d - 1) _ g x3 y69 (by omega)   (by omega) (by omega) (by omega) (by omega) (by (try simp only [hz69.eq, true_and, and_true]) <;> omega) (by (try simp only [hz69.eq, true_and, and_true]) <;> omega)) (by omega) (Nat.zero_le _) (Nat.zero_le _) (Nat.le_of_ble_eq_true rfl) (fun r97 V97 h97 => ?_)
                  obtain ⟨⟨y97, rfl, hl97, hh97, hP97_0⟩, hE97⟩ := h97
                  have hE97 := hE97.symm
                  subst hE97
                  clear hl97 hh97
                  try simp only [hz69.eq] at hP97_0
                  have hz97 : jEq y97.toInt (jtn (g.toInt) (x3.toInt) ((S (i5n55.toInt).toNat).toInt)) := hP97_0
                  clear hP97_0
                  have htb := jtn_b (g := g.toInt) (t := x3.toInt) (d := (S i5n55.toInt.toNat).toInt) (by omega) (by omega) (by omega) (by omega) (by omega) (by omega)
                  have htp : (jTp g.toInt x3.toInt x2.toInt (fun q => (S q).toInt)) g6n55.toInt.toNat = y97.toInt := (by unfold jTp; first | (rw [if_pos (by omega), htn]; exact (hz97.eq).symm) | (rw [if_neg (by omega), htn]; exact (hz97.eq).symm))
                  have hbx := hjv.b g6n55.toInt.toNat (Nat.le_refl _)
                  have hcc : jav g.toInt (jTp g.toInt x3.toInt x2.toInt (fun q => (S q).toInt)) (g6n55.toInt.toNat + 1) := hp12.mono (by omega)
                  refine Jw_callV1 (q9 := (RX3, TX3, 7)) moX3_lay jw_ml_X6_72 jw_im_X3_lay jw_se_X3_lay hb_tr rfl rfl dX6_pivot_100 (w_X3_lay_yes (d - 1) _ tr y97 MT g g6n55 sT xxT yyT zzT F6n55 F34n55 F35n55 F36n55 (by omega) hW  hb_tr ⟨_, hOgs55tr, hFgs55tr_0⟩ ⟨_, hOgs55tr, hFgs55tr_5⟩ ⟨_, hOgs55tr, hFgs55tr_6⟩ ⟨_, hOgs55tr, hFgs55tr_1⟩ ⟨_, hOgs55tr, hFgs55tr_2⟩ ⟨_, hOgs55tr, hFgs55tr_3⟩ ⟨_, hOgs55tr, hFgs55tr_4⟩ hAF6n55 hAF34n55 hAF35n55 hAF36n55 (by omega) (by omega) (by omega) (by omega) (by omega) (by first | omega | (simp only [hz97.eq]; omega)) (by first | omega | (simp only [hz97.eq]; omega)) (by omega) (by omega) (by omega) (by omega) (by omega) (by omega) (by omega) (fun j hj q => (jav_succ.mp hcc).2 j (by omega) ((hjv.next (by omega)).mpr (by rw [htp]; exact q)))) (by omega) (Nat.zero_le _) (Nat.zero_le _) (Nat.le_of_ble_eq_true rfl) (fun r100 V100 h100 => ?_)
                  obtain ⟨h100, hX100_0, hX100_1, hX100_2, hX100_3, hX100_4, ⟨fv100_0, hfv100_0, hfp100_0⟩, ⟨fv100_1, hfv100_1, hfp100_1⟩, ⟨fv100_2, hfv100_2, hfp100_2⟩⟩ := h100
                  obtain ⟨hW, hx100, hr100⟩ := h100
                  have he := he.trans (hx100.sub (jsub_of rfl))
                  have hfp := hfp.trans (hX100_4.sub (fun b hb => by simp only [List.mem_cons, List.not_mem_nil, or_false] at hb ⊢; omega))
                  have ha0 := ha0.mono hx100.1
                  have hb_md := hb_md.mono hx100.1
                  have hb_tr := hb_tr.mono hx100.1
                  have hb_ro := hb_ro.mono hx100.1
                  have hb_s := hb_s.mono hx100.1
                  have hb_xx := hb_xx.mono hx100.1
                  have hb_yy := hb_yy.mono hx100.1
                  have hb_zz := hb_zz.mono hx100.1
                  have hb_sT := hb_sT.mono hx100.1
                  have hb_xxT := hb_xxT.mono hx100.1
                  have hb_yyT := hb_yyT.mono hx100.1
                  have hb_zzT := hb_zzT.mono hx100.1
                  have hO_a0 := hx100.2 _ _ hO_a0 (jnot_of rfl)
                  have hK_a0 := hK_a0.mono hx100.1
                  have hO_ro := (hX100_4 ro (hAB ro List.mem_cons_self)).trans hO_ro
                  have hK_ro := hK_ro.mono hx100.1
                  obtain ⟨fs100tr, hOfs100tr, hRfs100tr⟩ := hx100.1.keep hOgs55tr
                  have hKfs100tr : jokO _ (jFs 1) fs100tr := hW _ _ id hOfs100tr
                  have hFfs100tr_1 := hRfs100tr _ _ hFgs55tr_1
                  have hFfs100tr_2 := hRfs100tr _ _ hFgs55tr_2
                  have hFfs100tr_3 := hRfs100tr _ _ hFgs55tr_3
                  have hFfs100tr_4 := hRfs100tr _ _ hFgs55tr_4
                  have ha_S := (hX100_4 s (hAB s (List.mem_cons_of_mem _ List.mem_cons_self))).trans ha_S
                  have ha_X := (hX100_4 xx (hAB xx (List.mem_cons_of_mem _ (List.mem_cons_of_mem _ List.mem_cons_self)))).trans ha_X
                  have ha_Y := (hX100_4 yy (hAB yy (List.mem_cons_of_mem _ (List.mem_cons_of_mem _ (List.mem_cons_of_mem _ List.mem_cons_self))))).trans ha_Y
                  have ha_Z := (hX100_4 zz (hAB zz (List.mem_cons_of_mem _ (List.mem_cons_of_mem _ (List.mem_cons_of_mem _ (List.mem_cons_of_mem _ List.mem_cons_self)))))).trans ha_Z
                  obtain ⟨y100, rfl, hl100, hh100, hP100_0⟩ := hr100
                  try simp only [hz97.eq] at hP100_0
                  have hFv100_0 := hfv100_0.get hOfs100tr
                  try simp only [hz97.eq] at hfp100_0
                  have hzf100_0 : jEq fv100_0.toInt ((g6n55.toInt) + 1) := hfp100_0
                  clear hfp100_0
                  have hFv100_1 := hfv100_1.get hOfs100tr
                  try simp only [hz97.eq] at hfp100_1
                  have hsb100_1 : MT = fv100_1 := (jI_inj.mp hfp100_1).symm
                  subst hsb100_1
                  have hFv100_2 := hfv100_2.get hOfs100tr
                  try simp only [hz97.eq] at hfp100_2
                  have hsb100_2 : g = fv100_2 := (jI_inj.mp hfp100_2).symm
                  subst hsb100_2
                  obtain ⟨S100, hS100, hSn100, hSo100⟩ := hX100_0
                  obtain ⟨X100, hXa100, hXn100, hXo100⟩ := hX100_1
                  obtain ⟨Y100, hYa100, hYn100, hYo100⟩ := hX100_2
                  obtain ⟨Z100, hZa100, hZn100, hZo100⟩ := hX100_3
                  obtain ⟨hN_S100, hv_S100⟩ := WT_rngI (r := ((-2147483648), 2147483647)) hW id rfl hS100
                  clear hN_S100
                  obtain ⟨hN_X100, hv_X100⟩ := WT_rngI (r := ((-2147483648), 2147483647)) hW id rfl hXa100
                  clear hN_X100
                  obtain ⟨hN_Y100, hv_Y100⟩ := WT_rngI (r := ((-2147483648), 2147483647)) hW id rfl hYa100
                  clear hN_Y100
                  obtain ⟨hN_Z100, hv_Z100⟩ := WT_rngI (r := ((-2147483648), 2147483647)) hW id rfl hZa100
                  clear hN_Z100
                  refine Jz_if_ne (tgt := 109) jEq.rf dX6_pivot_103 (by decide) (fun c103 => ?_) (fun c103 => ?_)
                  · refine Jz_iinc 1 dX6_pivot_109 rfl rfl (by decide) jEq.rf (by decide) (by omega) (by omega) (fun y109 he109 => ?_)
                    refine J_goto (tgt := 55) dX6_pivot_112 (by decide) ?_
                    refine J.mask [true, true, true, true, true, true, false] ?_
                    exact ih55 _ y109 fs100tr fv100_0 S100 X100 Y100 Z100 hW he ha0 hb_md hb_tr hb_ro hb_s hb_xx hb_yy hb_zz hb_sT hb_xxT hb_yyT hb_zzT hfp hO_a0 hK_a0 hO_ro hK_ro hOfs100tr hFfs100tr_1 hFfs100tr_2 hFfs100tr_3 hFfs100tr_4 hFv100_1 hFv100_2 hFv100_0 hS100 hXa100 hYa100 hZa100 ha_S ha_X ha_Y ha_Z (by (try simp only [he109.eq, hzf100_0.eq, true_and, and_true]) <;> omega) (by (try simp only [he109.eq, hzf100_0.eq, true_and, and_true]) <;> omega) (fun j hj => by rw [hzf100_0.eq] at hj; by_cases c : (j : Int) = g6n55.toInt; (have e : j = g6n55.toInt.toNat := by omega); subst e; rw [hSn100, htp]; rw [hSo100 j (by omega)]; exact hts j (by omega)) (by rw [hzf100_0.eq, show (g6n55.toInt + 1).toNat = g6n55.toInt.toNat + 1 by omega]; exact hjv.lay (by rw [hXn100, htp]) (by rw [hYn100, htp]) (by rw [hZn100, htp]) hXo100 hYo100 hZo100) (by rw [hzf100_0.eq, show (g6n55.toInt + 1).toNat = g6n55.toInt.toNat + 1 by omega]; exact hcc) (by (try simp only [he109.eq, hzf100_0.eq, true_and, and_true]) <;> omega)
                  · exact False.elim (by omega)
                · refine J_iload dX6_pivot_84 rfl ?_
                  refine J_goto (tgt := 100) dX6_pivot_86 (by decide) ?_
                  have htp : (jTp g.toInt x3.toInt x2.toInt (fun q => (S q).toInt)) g6n55.toInt.toNat = y69.toInt := (by unfold jTp; first | (rw [if_pos (by omega), htn]; exact (hz69.eq).symm) | (rw [if_neg (by omega), htn]; exact (hz69.eq).symm))
                  have hbx := hjv.b g6n55.toInt.toNat (Nat.le_refl _)
                  have hcc : jav g.toInt (jTp g.toInt x3.toInt x2.toInt (fun q => (S q).toInt)) (g6n55.toInt.toNat + 1) := hp12.mono (by omega)
                  refine Jw_callV1 (q9 := (RX3, TX3, 7)) moX3_lay jw_ml_X6_72 jw_im_X3_lay jw_se_X3_lay hb_tr rfl rfl dX6_pivot_100 (w_X3_lay_yes (d - 1) _ tr y69 MT g g6n55 sT xxT yyT zzT F6n55 F34n55 F35n55 F36n55 (by omega) hW  hb_tr ⟨_, hOgs55tr, hFgs55tr_0⟩ ⟨_, hOgs55tr, hFgs55tr_5⟩ ⟨_, hOgs55tr, hFgs55tr_6⟩ ⟨_, hOgs55tr, hFgs55tr_1⟩ ⟨_, hOgs55tr, hFgs55tr_2⟩ ⟨_, hOgs55tr, hFgs55tr_3⟩ ⟨_, hOgs55tr, hFgs55tr_4⟩ hAF6n55 hAF34n55 hAF35n55 hAF36n55 (by omega) (by omega) (by omega) (by omega) (by omega) (by first | omega | (simp only [hz69.eq]; omega)) (by first | omega | (simp only [hz69.eq]; omega)) (by omega) (by omega) (by omega) (by omega) (by omega) (by omega) (by omega) (fun j hj q => (jav_succ.mp hcc).2 j (by omega) ((hjv.next (by omega)).mpr (by rw [htp]; exact q)))) (by omega) (Nat.zero_le _) (Nat.zero_le _) (Nat.le_of_ble_eq_true rfl) (fun r100 V100 h100 => ?_)
                  obtain ⟨h100, hX100_0, hX100_1, hX100_2, hX100_3, hX100_4, ⟨fv100_0, hfv100_0, hfp100_0⟩, ⟨fv100_1, hfv100_1, hfp100_1⟩, ⟨fv100_2, hfv100_2, hfp100_2⟩⟩ := h100
                  obtain ⟨hW, hx100, hr100⟩ := h100
                  have he := he.trans (hx100.sub (jsub_of rfl))
                  have hfp := hfp.trans (hX100_4.sub (fun b hb => by simp only [List.mem_cons, List.not_mem_nil, or_false] at hb ⊢; omega))
                  have ha0 := ha0.mono hx100.1
                  have hb_md := hb_md.mono hx100.1
                  have hb_tr := hb_tr.mono hx100.1
                  have hb_ro := hb_ro.mono hx100.1
                  have hb_s := hb_s.mono hx100.1
                  have hb_xx := hb_xx.mono hx100.1
                  have hb_yy := hb_yy.mono hx100.1
                  have hb_zz := hb_zz.mono hx100.1
                  have hb_sT := hb_sT.mono hx100.1
                  have hb_xxT := hb_xxT.mono hx100.1
                  have hb_yyT := hb_yyT.mono hx100.1
                  have hb_zzT := hb_zzT.mono hx100.1
                  have hO_a0 := hx100.2 _ _ hO_a0 (jnot_of rfl)
                  have hK_a0 := hK_a0.mono hx100.1
                  have hO_ro := (hX100_4 ro (hAB ro List.mem_cons_self)).trans hO_ro
                  have hK_ro := hK_ro.mono hx100.1
                  obtain ⟨fs100tr, hOfs100tr, hRfs100tr⟩ := hx100.1.keep hOgs55tr
                  have hKfs100tr : jokO _ (jFs 1) fs100tr := hW _ _ id hOfs100tr
                  have hFfs100tr_1 := hRfs100tr _ _ hFgs55tr_1
                  have hFfs100tr_2 := hRfs100tr _ _ hFgs55tr_2
                  have hFfs100tr_3 := hRfs100tr _ _ hFgs55tr_3
                  have hFfs100tr_4 := hRfs100tr _ _ hFgs55tr_4
                  have ha_S := (hX100_4 s (hAB s (List.mem_cons_of_mem _ List.mem_cons_self))).trans ha_S
                  have ha_X := (hX100_4 xx (hAB xx (List.mem_cons_of_mem _ (List.mem_cons_of_mem _ List.mem_cons_self)))).trans ha_X
                  have ha_Y := (hX100_4 yy (hAB yy (List.mem_cons_of_mem _ (List.mem_cons_of_mem _ (List.mem_cons_of_mem _ List.mem_cons_self))))).trans ha_Y
                  have ha_Z := (hX100_4 zz (hAB zz (List.mem_cons_of_mem _ (List.mem_cons_of_mem _ (List.mem_cons_of_mem _ (List.mem_cons_of_mem _ List.mem_cons_self)))))).trans ha_Z
                  obtain ⟨y100, rfl, hl100, hh100, hP100_0⟩ := hr100
                  try simp only [hz69.eq] at hP100_0
                  have hFv100_0 := hfv100_0.get hOfs100tr
                  try simp only [hz69.eq] at hfp100_0
                  have hzf100_0 : jEq fv100_0.toInt ((g6n55.toInt) + 1) := hfp100_0
                  clear hfp100_0
                  have hFv100_1 := hfv100_1.get hOfs100tr
                  try simp only [hz69.eq] at hfp100_1
                  have hsb100_1 : MT = fv100_1 := (jI_inj.mp hfp100_1).symm
                  subst hsb100_1
                  have hFv100_2 := hfv100_2.get hOfs100tr
                  try simp only [hz69.eq] at hfp100_2
                  have hsb100_2 : g = fv100_2 := (jI_inj.mp hfp100_2).symm
                  subst hsb100_2
                  obtain ⟨S100, hS100, hSn100, hSo100⟩ := hX100_0
                  obtain ⟨X100, hXa100, hXn100, hXo100⟩ := hX100_1
                  obtain ⟨Y100, hYa100, hYn100, hYo100⟩ := hX100_2
                  obtain ⟨Z100, hZa100, hZn100, hZo100⟩ := hX100_3
                  obtain ⟨hN_S100, hv_S100⟩ := WT_rngI (r := ((-2147483648), 2147483647)) hW id rfl hS100
                  clear hN_S100
                  obtain ⟨hN_X100, hv_X100⟩ := WT_rngI (r := ((-2147483648), 2147483647)) hW id rfl hXa100
                  clear hN_X100
                  obtain ⟨hN_Y100, hv_Y100⟩ := WT_rngI (r := ((-2147483648), 2147483647)) hW id rfl hYa100
                  clear hN_Y100
                  obtain ⟨hN_Z100, hv_Z100⟩ := WT_rngI (r := ((-2147483648), 2147483647)) hW id rfl hZa100
                  clear hN_Z100
                  refine Jz_if_ne (tgt := 109) jEq.rf dX6_pivot_103 (by decide) (fun c103 => ?_) (fun c103 => ?_)
                  · refine Jz_iinc 1 dX6_pivot_109 rfl rfl (by decide) jEq.rf (by decide) (by omega) (by omega) (fun y109 he109 => ?_)
                    refine J_goto (tgt := 55) dX6_pivot_112 (by decide) ?_
                    refine J.mask [true, true, true, true, true, true, false] ?_
                    exact ih55 _ y109 fs100tr fv100_0 S100 X100 Y100 Z100 hW he ha0 hb_md hb_tr hb_ro hb_s hb_xx hb_yy hb_zz hb_sT hb_xxT hb_yyT hb_zzT hfp hO_a0 hK_a0 hO_ro hK_ro hOfs100tr hFfs100tr_1 hFfs100tr_2 hFfs100tr_3 hFfs100tr_4 hFv100_1 hFv100_2 hFv100_0 hS100 hXa100 hYa100 hZa100 ha_S ha_X ha_Y ha_Z (by (try simp only [he109.eq, hzf100_0.eq, true_and, and_true]) <;> omega) (by (try simp only [he109.eq, hzf100_0.eq, true_and, and_true]) <;> omega) (fun j hj => by rw [hzf100_0.eq] at hj; by_cases c : (j : Int) = g6n55.toInt; (have e : j = g6n55.toInt.toNat := by omega); subst e; rw [hSn100, htp]; rw [hSo100 j (by omega)]; exact hts j (by omega)) (by rw [hzf100_0.eq, show (g6n55.toInt + 1).toNat = g6n55.toInt.toNat + 1 by omega]; exact hjv.lay (by rw [hXn100, htp]) (by rw [hYn100, htp]) (by rw [hZn100, htp]) hXo100 hYo100 hZo100) (by rw [hzf100_0.eq, show (g6n55.toInt + 1).toNat = g6n55.toInt.toNat + 1 by omega]; exact hcc) (by (try simp only [he109.eq, hzf100_0.eq, true_and, and_true]) <;> omega)
                  · exact False.elim (by omega)
          refine J.mask [true, true, true, true, true, true, false] ?_
          exact L55 _ _ y52 fs49tr fv49_2 ST XT YT ZT hW he ha0 hb_md hb_tr hb_ro hb_s hb_xx hb_yy hb_zz hb_sT hb_xxT hb_yyT hb_zzT hfp hO_a0 hK_a0 hO_ro hK_ro hOfs49tr hFfs49tr_1 hFfs49tr_2 hFfs49tr_3 hFfs49tr_4 hFv49_0 hFv49_1 hFv49_2 ha_ST ha_XT ha_YT ha_ZT ha_S ha_X ha_Y ha_Z (by (try simp only [he52.eq, hzf49_2.eq, true_and, and_true]) <;> omega) (by (try simp only [he52.eq, hzf49_2.eq, true_and, and_true]) <;> omega) (fun j hj => by rw [hzf49_2.eq] at hj; omega) (by rw [hzf49_2.eq]; intro i hi; rw [show i = 0 by omega]; exact ⟨hz0, hz1, hz2⟩) (by rw [hzf49_2.eq]; exact jav.zero) (Nat.lt_succ_self _)
        · exact False.elim (by omega)
set_option maxRecDepth 100000 in
set_option maxHeartbeats 8000000 in
theorem w_X6_join_out2 {tS : jTS} (d : Nat) (V0 : jH) (a0 : Nat) (x1 : Int32) (x2 : Int32) (k : Int32) (md : Nat) (f : Nat → Option Nat) (ro : Nat) (M : Int32) (g : Int32) (n : Int32) (s : Nat) (xx : Nat) (yy : Nat) (zz : Nat) (S : Nat → Int32) (X : Nat → Int32) (Y : Nat → Int32) (Z : Nat → Int32) (hd : 4 ≤ d) (hW : WT V0) (ha0 : jis V0 (.inr 4) a0) (hf_k : jfI V0 a0 4 1 k) (hr_md : jfR V0 a0 4 0 md) (ha_f : V0 md = some (.inl (4, 16, .inr (.inr (.inr (.inr f)))))) (hf_M : jfI V0 ro 1 0 M) (hf_g : jfI V0 ro 1 5 g) (hf_n : jfI V0 ro 1 6 n) (hr_s : jfR V0 ro 1 1 s) (hr_xx : jfR V0 ro 1 2 xx) (hr_yy : jfR V0 ro 1 3 yy) (hr_zz : jfR V0 ro 1 4 zz) (ha_S : V0 s = some (.inl (6, 60, .inl S))) (ha_X : V0 xx = some (.inl (34, 61, .inl X))) (ha_Y : V0 yy = some (.inl (35, 61, .inl Y))) (ha_Z : V0 zz = some (.inl (36, 61, .inl Z))) (hm_ro : M.toInt = 60) (hn_ro : n.toInt ≤ 60) (hfo : f x1.toInt.toNat = some ro) (hp0 : 0 ≤ x1.toInt) (hp1 : x1.toInt < k.toInt) (hp2 : ¬ (0 ≤ x2.toInt ∧ x2.toInt < k.toInt)) : jTot tS mX6_join d [.ref a0, .int x1, .int x2] V0 0 0 (fun r V => (fun r _ => ∃ y : Int32, r = some (.int y) ∧ ((-2147483648) ≤ y.toInt) ∧ (y.toInt ≤ 2147483647) ∧ (y.toInt = -2)) r V ∧ V = V0) := by
  refine jTot.of_J [some (.ref a0), some (.int x1), some (.int x2), none, none, none] moX6_join (Nat.le_of_ble_eq_true rfl) rfl ?_
  have hrx1 := j_rng x1
  have hrx2 := j_rng x2
  have he : jeff [] V0 V0 := jeff.refl _ _
  obtain ⟨fs_a0, hO_a0, hK_a0⟩ := WT_obj hW id ha0
  have hF_k := hf_k.get hO_a0
  have hrk : 0 ≤ k.toInt ∧ k.toInt ≤ 16 := jok_rngI hK_a0 rfl hF_k
  have hF_md := hr_md.get hO_a0
  obtain ⟨w_md, hFq_md, b_md, hbq_md, hb_md⟩ := hK_a0.2 0 (.inr (some (.inl 4))) rfl
  cases hF_md.symm.trans (hFq_md.trans (congrArg some hbq_md))
  have hb_ro : jis V0 (.inr 1) ro := by obtain ⟨q1, q2, q3⟩ := hf_M; exact ⟨_, q2, rfl⟩
  obtain ⟨fs_ro, hO_ro, hK_ro⟩ := WT_obj hW id hb_ro
  have hF_M := hf_M.get hO_ro
  have hrM : 0 ≤ M.toInt ∧ M.toInt ≤ 120 := jok_rngI hK_ro rfl hF_M
  have hF_g := hf_g.get hO_ro
  have hrg : (-2147483648) ≤ g.toInt ∧ g.toInt ≤ 2147483647 := jok_rngI hK_ro rfl hF_g
  have hF_n := hf_n.get hO_ro
  have hrn : 0 ≤ n.toInt ∧ n.toInt ≤ 120 := jok_rngI hK_ro rfl hF_n
  have hF_s := hr_s.get hO_ro
  have hb_s : jis V0 (.inl 6) s := ⟨_, ha_S, rfl⟩
  obtain ⟨hN_S, hv_S⟩ := WT_rngI (r := (-2147483648, 2147483647)) hW id rfl ha_S
  clear hN_S
  have hF_xx := hr_xx.get hO_ro
  have hb_xx : jis V0 (.inl 34) xx := ⟨_, ha_X, rfl⟩
  obtain ⟨hN_X, hv_X⟩ := WT_rngI (r := (-2147483648, 2147483647)) hW id rfl ha_X
  clear hN_X
  have hF_yy := hr_yy.get hO_ro
  have hb_yy : jis V0 (.inl 35) yy := ⟨_, ha_Y, rfl⟩
  obtain ⟨hN_Y, hv_Y⟩ := WT_rngI (r := (-2147483648, 2147483647)) hW id rfl ha_Y
  clear hN_Y
  have hF_zz := hr_zz.get hO_ro
  have hb_zz : jis V0 (.inl 36) zz := ⟨_, ha_Z, rfl⟩
  obtain ⟨hN_Z, hv_Z⟩ := WT_rngI (r := (-2147483648, 2147483647)) hW id rfl ha_Z
  clear hN_Z
  refine J_aload_n dX6_join_0 rfl ?_
  refine J_iload_n dX6_join_1 rfl ?_
  refine Jw_callV1 (q9 := (RX6, TX6, 7)) moX6_rowOf jw_ml_X6_55 jw_im_X6_rowOf jw_se_X6_rowOf ha0 rfl rfl dX6_join_2 (w_X6_rowOf_in (d - 1) _ a0 x1 hO_a0 hF_md hF_k ha_f (by omega) (by omega) (by omega) hfo) (by omega) (Nat.zero_le _) (Nat.zero_le _) (Nat.le_of_ble_eq_true rfl) (fun r2 V2 h2 => ?_)
  obtain ⟨rfl, hE2⟩ := h2
  have hE2 := hE2.symm
  subst hE2
  · refine J_astore_n dX6_join_5 rfl (by decide) ?_
    refine J_aload_n dX6_join_6 rfl ?_
    refine J_iload_n dX6_join_7 rfl ?_
    refine Jw_callV1 (q9 := (RX6, TX6, 7)) moX6_rowOf jw_ml_X6_55 jw_im_X6_rowOf jw_se_X6_rowOf ha0 rfl rfl dX6_join_8 (w_X6_rowOf_out (d - 1) _ a0 x2 hO_a0 hF_k (by omega)) (by omega) (Nat.zero_le _) (Nat.zero_le _) (Nat.le_of_ble_eq_true rfl) (fun r8 V8 h8 => ?_)
    obtain ⟨rfl, hE8⟩ := h8
    have hE8 := hE8.symm
    subst hE8
    · refine J_astoreN dX6_join_11 rfl (by decide) ?_
      refine J_aload_n dX6_join_13 rfl ?_
      refine J_ifnull dX6_join_14 ?_
      refine J_aloadN dX6_join_17 rfl ?_
      refine J_ifnonnullN dX6_join_19 ?_
      refine Jz_bipush (-2) dX6_join_22 (by decide) (fun y22 he22 => ?_)
      exact J_ret (r := some (.int _)) dX6_join_24 ⟨rfl, _, rfl, rfl⟩ (⟨⟨_, rfl, (j_rng _).1, (j_rng _).2, (by (try simp only [he22.eq, true_and, and_true]) <;> omega)⟩, rfl⟩)
set_option maxRecDepth 100000 in
set_option maxHeartbeats 8000000 in
theorem w_X6_join_dif {tS : jTS} (d : Nat) (V0 : jH) (a0 : Nat) (x1 : Int32) (x2 : Int32) (k : Int32) (md : Nat) (f : Nat → Option Nat) (ro : Nat) (M : Int32) (g : Int32) (n : Int32) (s : Nat) (xx : Nat) (yy : Nat) (zz : Nat) (S : Nat → Int32) (X : Nat → Int32) (Y : Nat → Int32) (Z : Nat → Int32) (rb : Nat) (MB : Int32) (gB : Int32) (nB : Int32) (sB : Nat) (xxB : Nat) (yyB : Nat) (zzB : Nat) (SB : Nat → Int32) (XB : Nat → Int32) (YB : Nat → Int32) (ZB : Nat → Int32) (hd : 4 ≤ d) (hW : WT V0) (ha0 : jis V0 (.inr 4) a0) (hf_k : jfI V0 a0 4 1 k) (hr_md : jfR V0 a0 4 0 md) (ha_f : V0 md = some (.inl (4, 16, .inr (.inr (.inr (.inr f)))))) (hf_M : jfI V0 ro 1 0 M) (hf_g : jfI V0 ro 1 5 g) (hf_n : jfI V0 ro 1 6 n) (hr_s : jfR V0 ro 1 1 s) (hr_xx : jfR V0 ro 1 2 xx) (hr_yy : jfR V0 ro 1 3 yy) (hr_zz : jfR V0 ro 1 4 zz) (ha_S : V0 s = some (.inl (6, 60, .inl S))) (ha_X : V0 xx = some (.inl (34, 61, .inl X))) (ha_Y : V0 yy = some (.inl (35, 61, .inl Y))) (ha_Z : V0 zz = some (.inl (36, 61, .inl Z))) (hm_ro : M.toInt = 60) (hn_ro : n.toInt ≤ 60) (hfo : f x1.toInt.toNat = some ro) (hf_MB : jfI V0 rb 1 0 MB) (hf_gB : jfI V0 rb 1 5 gB) (hf_nB : jfI V0 rb 1 6 nB) (hr_sB : jfR V0 rb 1 1 sB) (hr_xxB : jfR V0 rb 1 2 xxB) (hr_yyB : jfR V0 rb 1 3 yyB) (hr_zzB : jfR V0 rb 1 4 zzB) (ha_SB : V0 sB = some (.inl (6, 60, .inl SB))) (ha_XB : V0 xxB = some (.inl (34, 61, .inl XB))) (ha_YB : V0 yyB = some (.inl (35, 61, .inl YB))) (ha_ZB : V0 zzB = some (.inl (36, 61, .inl ZB))) (hm_rb : MB.toInt = 60) (hn_rb : nB.toInt ≤ 60) (hfb : f x2.toInt.toNat = some rb) (hp0 : 0 ≤ x1.toInt) (hp1 : x1.toInt < k.toInt) (hp2 : 0 ≤ x2.toInt) (hp3 : x2.toInt < k.toInt) (hp4 : ¬ g.toInt = gB.toInt) : jTot tS mX6_join d [.ref a0, .int x1, .int x2] V0 0 0 (fun r V => (fun r _ => ∃ y : Int32, r = some (.int y) ∧ ((-2147483648) ≤ y.toInt) ∧ (y.toInt ≤ 2147483647) ∧ (y.toInt = -3)) r V ∧ V = V0) := by
  refine jTot.of_J [some (.ref a0), some (.int x1), some (.int x2), none, none, none] moX6_join (Nat.le_of_ble_eq_true rfl) rfl ?_
  have hrx1 := j_rng x1
  have hrx2 := j_rng x2
  have he : jeff [] V0 V0 := jeff.refl _ _
  obtain ⟨fs_a0, hO_a0, hK_a0⟩ := WT_obj hW id ha0
  have hF_k := hf_k.get hO_a0
  have hrk : 0 ≤ k.toInt ∧ k.toInt ≤ 16 := jok_rngI hK_a0 rfl hF_k
  have hF_md := hr_md.get hO_a0
  obtain ⟨w_md, hFq_md, b_md, hbq_md, hb_md⟩ := hK_a0.2 0 (.inr (some (.inl 4))) rfl
  cases hF_md.symm.trans (hFq_md.trans (congrArg some hbq_md))
  have hb_ro : jis V0 (.inr 1) ro := by obtain ⟨q1, q2, q3⟩ := hf_M; exact ⟨_, q2, rfl⟩
  obtain ⟨fs_ro, hO_ro, hK_ro⟩ := WT_obj hW id hb_ro
  have hF_M := hf_M.get hO_ro
  have hrM : 0 ≤ M.toInt ∧ M.toInt ≤ 120 := jok_rngI hK_ro rfl hF_M
  have hF_g := hf_g.get hO_ro
  have hrg : (-2147483648) ≤ g.toInt ∧ g.toInt ≤ 2147483647 := jok_rngI hK_ro rfl hF_g
  have hF_n := hf_n.get hO_ro
  have hrn : 0 ≤ n.toInt ∧ n.toInt ≤ 120 := jok_rngI hK_ro rfl hF_n
  have hF_s := hr_s.get hO_ro
  have hb_s : jis V0 (.inl 6) s := ⟨_, ha_S, rfl⟩
  obtain ⟨hN_S, hv_S⟩ := WT_rngI (r := (-2147483648, 2147483647)) hW id rfl ha_S
  clear hN_S
  have hF_xx := hr_xx.get hO_ro
  have hb_xx : jis V0 (.inl 34) xx := ⟨_, ha_X, rfl⟩
  obtain ⟨hN_X, hv_X⟩ := WT_rngI (r := (-2147483648, 2147483647)) hW id rfl ha_X
  clear hN_X
  have hF_yy := hr_yy.get hO_ro
  have hb_yy : jis V0 (.inl 35) yy := ⟨_, ha_Y, rfl⟩
  obtain ⟨hN_Y, hv_Y⟩ := WT_rngI (r := (-2147483648, 2147483647)) hW id rfl ha_Y
  clear hN_Y
  have hF_zz := hr_zz.get hO_ro
  have hb_zz : jis V0 (.inl 36) zz := ⟨_, ha_Z, rfl⟩
  obtain ⟨hN_Z, hv_Z⟩ := WT_rngI (r := (-2147483648, 2147483647)) hW id rfl ha_Z
  clear hN_Z
  have hb_rb : jis V0 (.inr 1) rb := by obtain ⟨q1, q2, q3⟩ := hf_MB; exact ⟨_, q2, rfl⟩
  obtain ⟨fs_rb, hO_rb, hK_rb⟩ := WT_obj hW id hb_rb
  have hF_MB := hf_MB.get hO_rb
  have hrMB : 0 ≤ MB.toInt ∧ MB.toInt ≤ 120 := jok_rngI hK_rb rfl hF_MB
  have hF_gB := hf_gB.get hO_rb
  have hrgB : (-2147483648) ≤ gB.toInt ∧ gB.toInt ≤ 2147483647 := jok_rngI hK_rb rfl hF_gB
  have hF_nB := hf_nB.get hO_rb
  have hrnB : 0 ≤ nB.toInt ∧ nB.toInt ≤ 120 := jok_rngI hK_rb rfl hF_nB
  have hF_sB := hr_sB.get hO_rb
  have hb_sB : jis V0 (.inl 6) sB := ⟨_, ha_SB, rfl⟩
  obtain ⟨hN_SB, hv_SB⟩ := WT_rngI (r := (-2147483648, 2147483647)) hW id rfl ha_SB
  clear hN_SB
  have hF_xxB := hr_xxB.get hO_rb
  have hb_xxB : jis V0 (.inl 34) xxB := ⟨_, ha_XB, rfl⟩
  obtain ⟨hN_XB, hv_XB⟩ := WT_rngI (r := (-2147483648, 2147483647)) hW id rfl ha_XB
  clear hN_XB
  have hF_yyB := hr_yyB.get hO_rb
  have hb_yyB : jis V0 (.inl 35) yyB := ⟨_, ha_YB, rfl⟩
  obtain ⟨hN_YB, hv_YB⟩ := WT_rngI (r := (-2147483648, 2147483647)) hW id rfl ha_YB
  clear hN_YB
  have hF_zzB := hr_zzB.get hO_rb
  have hb_zzB : jis V0 (.inl 36) zzB := ⟨_, ha_ZB, rfl⟩
  obtain ⟨hN_ZB, hv_ZB⟩ := WT_rngI (r := (-2147483648, 2147483647)) hW id rfl ha_ZB
  clear hN_ZB
  refine J_aload_n dX6_join_0 rfl ?_
  refine J_iload_n dX6_join_1 rfl ?_
  refine Jw_callV1 (q9 := (RX6, TX6, 7)) moX6_rowOf jw_ml_X6_55 jw_im_X6_rowOf jw_se_X6_rowOf ha0 rfl rfl dX6_join_2 (w_X6_rowOf_in (d - 1) _ a0 x1 hO_a0 hF_md hF_k ha_f (by omega) (by omega) (by omega) hfo) (by omega) (Nat.zero_le _) (Nat.zero_le _) (Nat.le_of_ble_eq_true rfl) (fun r2 V2 h2 => ?_)
  obtain ⟨rfl, hE2⟩ := h2
  have hE2 := hE2.symm
  subst hE2
  · refine J_astore_n dX6_join_5 rfl (by decide) ?_
    refine J_aload_n dX6_join_6 rfl ?_
    refine J_iload_n dX6_join_7 rfl ?_
    refine Jw_callV1 (q9 := (RX6, TX6, 7)) moX6_rowOf jw_ml_X6_55 jw_im_X6_rowOf jw_se_X6_rowOf ha0 rfl rfl dX6_join_8 (w_X6_rowOf_in (d - 1) _ a0 x2 hO_a0 hF_md hF_k ha_f (by omega) (by omega) (by omega) hfb) (by omega) (Nat.zero_le _) (Nat.zero_le _) (Nat.le_of_ble_eq_true rfl) (fun r8 V8 h8 => ?_)
    obtain ⟨rfl, hE8⟩ := h8
    have hE8 := hE8.symm
    subst hE8
    · refine J_astore dX6_join_11 rfl (by decide) ?_
      refine J_aload_n dX6_join_13 rfl ?_
      refine J_ifnull dX6_join_14 ?_
      refine J_aload dX6_join_17 rfl ?_
      refine J_ifnonnull (tgt := 25) dX6_join_19 (by decide) ?_
      refine J_aload_n dX6_join_25 rfl ?_
      refine J_get jf_X6_59 dX6_join_26 hO_ro hF_g ?_
      refine J_aload dX6_join_29 rfl ?_
      refine J_get jf_X6_59 dX6_join_31 hO_rb hF_gB ?_
      refine Jz_icmp_eq (tgt := 40) jEq.rf jEq.rf dX6_join_34 (by decide) (fun c34 => ?_) (fun c34 => ?_)
      · exact False.elim (by omega)
      · refine Jz_bipush (-3) dX6_join_37 (by decide) (fun y37 he37 => ?_)
        exact J_ret (r := some (.int _)) dX6_join_39 ⟨rfl, _, rfl, rfl⟩ (⟨⟨_, rfl, (j_rng _).1, (j_rng _).2, (by (try simp only [he37.eq, true_and, and_true]) <;> omega)⟩, rfl⟩)
set_option maxRecDepth 100000 in
set_option maxHeartbeats 8000000 in
theorem w_X6_join_no {tS : jTS} (d : Nat) (V0 : jH) (a0 : Nat) (x1 : Int32) (x2 : Int32) (k : Int32) (md : Nat) (tr : Nat) (f : Nat → Option Nat) (ro : Nat) (M : Int32) (g : Int32) (n : Int32) (s : Nat) (xx : Nat) (yy : Nat) (zz : Nat) (S : Nat → Int32) (X : Nat → Int32) (Y : Nat → Int32) (Z : Nat → Int32) (rb : Nat) (MB : Int32) (gB : Int32) (nB : Int32) (sB : Nat) (xxB : Nat) (yyB : Nat) (zzB : Nat) (SB : Nat → Int32) (XB : Nat → Int32) (YB : Nat → Int32) (ZB : Nat → Int32) (MT : Int32) (gT : Int32) (nT : Int32) (sT : Nat) (xxT : Nat) (yyT : Nat) (zzT : Nat) (ST : Nat → Int32) (XT : Nat → Int32) (YT : Nat → Int32) (ZT : Nat → Int32) (hd : 4 ≤ d) (hW : WT V0) (ha0 : jis V0 (.inr 4) a0) (hf_k : jfI V0 a0 4 1 k) (hr_md : jfR V0 a0 4 0 md) (hr_tr : jfR V0 a0 4 2 tr) (ha_f : V0 md = some (.inl (4, 16, .inr (.inr (.inr (.inr f)))))) (hf_M : jfI V0 ro 1 0 M) (hf_g : jfI V0 ro 1 5 g) (hf_n : jfI V0 ro 1 6 n) (hr_s : jfR V0 ro 1 1 s) (hr_xx : jfR V0 ro 1 2 xx) (hr_yy : jfR V0 ro 1 3 yy) (hr_zz : jfR V0 ro 1 4 zz) (ha_S : V0 s = some (.inl (6, 60, .inl S))) (ha_X : V0 xx = some (.inl (34, 61, .inl X))) (ha_Y : V0 yy = some (.inl (35, 61, .inl Y))) (ha_Z : V0 zz = some (.inl (36, 61, .inl Z))) (hm_ro : M.toInt = 60) (hn_ro : n.toInt ≤ 60) (hfo : f x1.toInt.toNat = some ro) (hf_MB : jfI V0 rb 1 0 MB) (hf_gB : jfI V0 rb 1 5 gB) (hf_nB : jfI V0 rb 1 6 nB) (hr_sB : jfR V0 rb 1 1 sB) (hr_xxB : jfR V0 rb 1 2 xxB) (hr_yyB : jfR V0 rb 1 3 yyB) (hr_zzB : jfR V0 rb 1 4 zzB) (ha_SB : V0 sB = some (.inl (6, 60, .inl SB))) (ha_XB : V0 xxB = some (.inl (34, 61, .inl XB))) (ha_YB : V0 yyB = some (.inl (35, 61, .inl YB))) (ha_ZB : V0 zzB = some (.inl (36, 61, .inl ZB))) (hm_rb : MB.toInt = 60) (hn_rb : nB.toInt ≤ 60) (hfb : f x2.toInt.toNat = some rb) (hf_MT : jfI V0 tr 1 0 MT) (hf_gT : jfI V0 tr 1 5 gT) (hf_nT : jfI V0 tr 1 6 nT) (hr_sT : jfR V0 tr 1 1 sT) (hr_xxT : jfR V0 tr 1 2 xxT) (hr_yyT : jfR V0 tr 1 3 yyT) (hr_zzT : jfR V0 tr 1 4 zzT) (ha_ST : V0 sT = some (.inl (6, 120, .inl ST))) (ha_XT : V0 xxT = some (.inl (34, 121, .inl XT))) (ha_YT : V0 yyT = some (.inl (35, 121, .inl YT))) (ha_ZT : V0 zzT = some (.inl (36, 121, .inl ZT))) (hm_tr : MT.toInt = 120) (hn_tr : nT.toInt ≤ 120) (hAB : ∀ b ∈ [ro, s, xx, yy, zz], b ∉ [tr, sT, xxT, yyT, zzT]) (hBA : ∀ b ∈ [tr, sT, xxT, yyT, zzT], b ∉ [ro, s, xx, yy, zz]) (hCB : ∀ b ∈ [rb, sB, xxB, yyB, zzB], b ∉ [tr, sT, xxT, yyT, zzT]) (hp0 : 0 ≤ x1.toInt) (hp1 : x1.toInt < k.toInt) (hp2 : 0 ≤ x2.toInt) (hp3 : x2.toInt < k.toInt) (hp4 : 0 ≤ g.toInt) (hp5 : g.toInt ≤ 3) (hp6 : g.toInt = gB.toInt) (hp7 : ∀ j : Nat, (j : Int) < nB.toInt → 0 ≤ (SB j).toInt ∧ (SB j).toInt < jdir gB.toInt) (hp8 : (XT 0).toInt = 0) (hp9 : (YT 0).toInt = 0) (hp10 : (ZT 0).toInt = 0) (hp11 : jrv g.toInt (fun q => (S q).toInt) n.toInt.toNat X Y Z) (hp12 : jav g.toInt (fun q => (S q).toInt) n.toInt.toNat) (hp13 : ¬ jav g.toInt (jTj (fun q => (S q).toInt) n.toInt.toNat (fun q => (SB q).toInt)) (n.toInt + nB.toInt).toNat) : jTot tS mX6_join d [.ref a0, .int x1, .int x2] V0 0 0 (fun r V => (jPost [.inr 1, .inl 6, .inl 34, .inl 35, .inl 36] V0 (fun r _ => ∃ y : Int32, r = some (.int y) ∧ ((-2147483648) ≤ y.toInt) ∧ (y.toInt ≤ 2147483647) ∧ (y.toInt = -3))) r V ∧ (∃ (g2 n2 : Int) (S2 X2 Y2 Z2 : Nat → Int32), jrw V tr sT xxT yyT zzT 120 g2 n2 S2 X2 Y2 Z2 ∧ (X2 0).toInt = 0 ∧ (Y2 0).toInt = 0 ∧ (Z2 0).toInt = 0) ∧ jfp [tr, sT, xxT, yyT, zzT] V0 V) := by
  refine jTot.of_J [some (.ref a0), some (.int x1), some (.int x2), none, none, none] moX6_join (Nat.le_of_ble_eq_true rfl) rfl ?_
  have hrx1 := j_rng x1
  have hrx2 := j_rng x2
  have he : jeff [.inr 1, .inl 6, .inl 34, .inl 35, .inl 36] V0 V0 := jeff.refl _ _
  have hfp : jfp [tr, sT, xxT, yyT, zzT] V0 V0 := jfp.rf
  obtain ⟨fs_a0, hO_a0, hK_a0⟩ := WT_obj hW id ha0
  have hF_k := hf_k.get hO_a0
  have hrk : 0 ≤ k.toInt ∧ k.toInt ≤ 16 := jok_rngI hK_a0 rfl hF_k
  have hF_md := hr_md.get hO_a0
  obtain ⟨w_md, hFq_md, b_md, hbq_md, hb_md⟩ := hK_a0.2 0 (.inr (some (.inl 4))) rfl
  cases hF_md.symm.trans (hFq_md.trans (congrArg some hbq_md))
  have hF_tr := hr_tr.get hO_a0
  obtain ⟨w_tr, hFq_tr, b_tr, hbq_tr, hb_tr⟩ := hK_a0.2 2 (.inr (some (.inr 1))) rfl
  cases hF_tr.symm.trans (hFq_tr.trans (congrArg some hbq_tr))
  have hb_ro : jis V0 (.inr 1) ro := by obtain ⟨q1, q2, q3⟩ := hf_M; exact ⟨_, q2, rfl⟩
  obtain ⟨fs_ro, hO_ro, hK_ro⟩ := WT_obj hW id hb_ro
  have hF_M := hf_M.get hO_ro
  have hrM : 0 ≤ M.toInt ∧ M.toInt ≤ 120 := jok_rngI hK_ro rfl hF_M
  have hF_g := hf_g.get hO_ro
  have hrg : (-2147483648) ≤ g.toInt ∧ g.toInt ≤ 2147483647 := jok_rngI hK_ro rfl hF_g
  have hF_n := hf_n.get hO_ro
  have hrn : 0 ≤ n.toInt ∧ n.toInt ≤ 120 := jok_rngI hK_ro rfl hF_n
  have hF_s := hr_s.get hO_ro
  have hb_s : jis V0 (.inl 6) s := ⟨_, ha_S, rfl⟩
  obtain ⟨hN_S, hv_S⟩ := WT_rngI (r := (-2147483648, 2147483647)) hW id rfl ha_S
  clear hN_S
  have hF_xx := hr_xx.get hO_ro
  have hb_xx : jis V0 (.inl 34) xx := ⟨_, ha_X, rfl⟩
  obtain ⟨hN_X, hv_X⟩ := WT_rngI (r := (-2147483648, 2147483647)) hW id rfl ha_X
  clear hN_X
  have hF_yy := hr_yy.get hO_ro
  have hb_yy : jis V0 (.inl 35) yy := ⟨_, ha_Y, rfl⟩
  obtain ⟨hN_Y, hv_Y⟩ := WT_rngI (r := (-2147483648, 2147483647)) hW id rfl ha_Y
  clear hN_Y
  have hF_zz := hr_zz.get hO_ro
  have hb_zz : jis V0 (.inl 36) zz := ⟨_, ha_Z, rfl⟩
  obtain ⟨hN_Z, hv_Z⟩ := WT_rngI (r := (-2147483648, 2147483647)) hW id rfl ha_Z
  clear hN_Z
  have hb_rb : jis V0 (.inr 1) rb := by obtain ⟨q1, q2, q3⟩ := hf_MB; exact ⟨_, q2, rfl⟩
  obtain ⟨fs_rb, hO_rb, hK_rb⟩ := WT_obj hW id hb_rb
  have hF_MB := hf_MB.get hO_rb
  have hrMB : 0 ≤ MB.toInt ∧ MB.toInt ≤ 120 := jok_rngI hK_rb rfl hF_MB
  have hF_gB := hf_gB.get hO_rb
  have hrgB : (-2147483648) ≤ gB.toInt ∧ gB.toInt ≤ 2147483647 := jok_rngI hK_rb rfl hF_gB
  have hF_nB := hf_nB.get hO_rb
  have hrnB : 0 ≤ nB.toInt ∧ nB.toInt ≤ 120 := jok_rngI hK_rb rfl hF_nB
  have hF_sB := hr_sB.get hO_rb
  have hb_sB : jis V0 (.inl 6) sB := ⟨_, ha_SB, rfl⟩
  obtain ⟨hN_SB, hv_SB⟩ := WT_rngI (r := (-2147483648, 2147483647)) hW id rfl ha_SB
  clear hN_SB
  have hF_xxB := hr_xxB.get hO_rb
  have hb_xxB : jis V0 (.inl 34) xxB := ⟨_, ha_XB, rfl⟩
  obtain ⟨hN_XB, hv_XB⟩ := WT_rngI (r := (-2147483648, 2147483647)) hW id rfl ha_XB
  clear hN_XB
  have hF_yyB := hr_yyB.get hO_rb
  have hb_yyB : jis V0 (.inl 35) yyB := ⟨_, ha_YB, rfl⟩
  obtain ⟨hN_YB, hv_YB⟩ := WT_rngI (r := (-2147483648, 2147483647)) hW id rfl ha_YB
  clear hN_YB
  have hF_zzB := hr_zzB.get hO_rb
  have hb_zzB : jis V0 (.inl 36) zzB := ⟨_, ha_ZB, rfl⟩
  obtain ⟨hN_ZB, hv_ZB⟩ := WT_rngI (r := (-2147483648, 2147483647)) hW id rfl ha_ZB
  clear hN_ZB
  obtain ⟨fs_tr, hO_tr, hK_tr⟩ := WT_obj hW id hb_tr
  have hF_MT := hf_MT.get hO_tr
  have hrMT : 0 ≤ MT.toInt ∧ MT.toInt ≤ 120 := jok_rngI hK_tr rfl hF_MT
  have hF_gT := hf_gT.get hO_tr
  have hrgT : (-2147483648) ≤ gT.toInt ∧ gT.toInt ≤ 2147483647 := jok_rngI hK_tr rfl hF_gT
  have hF_nT := hf_nT.get hO_tr
  have hrnT : 0 ≤ nT.toInt ∧ nT.toInt ≤ 120 := jok_rngI hK_tr rfl hF_nT
  have hF_sT := hr_sT.get hO_tr
  have hb_sT : jis V0 (.inl 6) sT := ⟨_, ha_ST, rfl⟩
  obtain ⟨hN_ST, hv_ST⟩ := WT_rngI (r := (-2147483648, 2147483647)) hW id rfl ha_ST
  clear hN_ST
  have hF_xxT := hr_xxT.get hO_tr
  have hb_xxT : jis V0 (.inl 34) xxT := ⟨_, ha_XT, rfl⟩
  obtain ⟨hN_XT, hv_XT⟩ := WT_rngI (r := (-2147483648, 2147483647)) hW id rfl ha_XT
  clear hN_XT
  have hF_yyT := hr_yyT.get hO_tr
  have hb_yyT : jis V0 (.inl 35) yyT := ⟨_, ha_YT, rfl⟩
  obtain ⟨hN_YT, hv_YT⟩ := WT_rngI (r := (-2147483648, 2147483647)) hW id rfl ha_YT
  clear hN_YT
  have hF_zzT := hr_zzT.get hO_tr
  have hb_zzT : jis V0 (.inl 36) zzT := ⟨_, ha_ZT, rfl⟩
  obtain ⟨hN_ZT, hv_ZT⟩ := WT_rngI (r := (-2147483648, 2147483647)) hW id rfl ha_ZT
  clear hN_ZT
  refine J_aload_n dX6_join_0 rfl ?_
  refine J_iload_n dX6_join_1 rfl ?_
  refine Jw_callV1 (q9 := (RX6, TX6, 7)) moX6_rowOf jw_ml_X6_55 jw_im_X6_rowOf jw_se_X6_rowOf ha0 rfl rfl dX6_join_2 (w_X6_rowOf_in (d - 1) _ a0 x1 hO_a0 hF_md hF_k ha_f (by omega) (by omega) (by omega) hfo) (by omega) (Nat.zero_le _) (Nat.zero_le _) (Nat.le_of_ble_eq_true rfl) (fun r2 V2 h2 => ?_)
  obtain ⟨rfl, hE2⟩ := h2
  have hE2 := hE2.symm
  subst hE2
  · refine J_astore_n dX6_join_5 rfl (by decide) ?_
    refine J_aload_n dX6_join_6 rfl ?_
    refine J_iload_n dX6_join_7 rfl ?_
    refine Jw_callV1 (q9 := (RX6, TX6, 7)) moX6_rowOf jw_ml_X6_55 jw_im_X6_rowOf jw_se_X6_rowOf ha0 rfl rfl dX6_join_8 (w_X6_rowOf_in (d - 1) _ a0 x2 hO_a0 hF_md hF_k ha_f (by omega) (by omega) (by omega) hfb) (by omega) (Nat.zero_le _) (Nat.zero_le _) (Nat.le_of_ble_eq_true rfl) (fun r8 V8 h8 => ?_)
    obtain ⟨rfl, hE8⟩ := h8
    have hE8 := hE8.symm
    subst hE8
    · refine J_astore dX6_join_11 rfl (by decide) ?_
      refine J_aload_n dX6_join_13 rfl ?_
      refine J_ifnull dX6_join_14 ?_
      refine J_aload dX6_join_17 rfl ?_
      refine J_ifnonnull (tgt := 25) dX6_join_19 (by decide) ?_
      refine J_aload_n dX6_join_25 rfl ?_
      refine J_get jf_X6_59 dX6_join_26 hO_ro hF_g ?_
      refine J_aload dX6_join_29 rfl ?_
      refine J_get jf_X6_59 dX6_join_31 hO_rb hF_gB ?_
      refine Jz_icmp_eq (tgt := 40) jEq.rf jEq.rf dX6_join_34 (by decide) (fun c34 => ?_) (fun c34 => ?_)
      · refine J_aload_n dX6_join_40 rfl ?_
        refine J_get jf_X6_22 dX6_join_41 hO_a0 hF_tr ?_
        refine J_aload_n dX6_join_44 rfl ?_
        have hdc := jdir_cases g.toInt
        refine Jw_callV1 (q9 := (RX3, TX3, 7)) moX3_become jw_ml_X6_89 jw_im_X3_become jw_se_X3_become hb_tr rfl rfl dX6_join_45 (w_X3_become_z (d - 1) _ tr ro MT g n sT xxT yyT zzT s xx yy zz ST XT YT ZT S X Y Z (by omega) hW  hb_tr hb_ro ⟨_, hO_tr, hF_MT⟩ ⟨_, hO_ro, hF_g⟩ ⟨_, hO_ro, hF_n⟩ ⟨_, hO_tr, hF_sT⟩ ⟨_, hO_tr, hF_xxT⟩ ⟨_, hO_tr, hF_yyT⟩ ⟨_, hO_tr, hF_zzT⟩ ⟨_, hO_ro, hF_s⟩ ⟨_, hO_ro, hF_xx⟩ ⟨_, hO_ro, hF_yy⟩ ⟨_, hO_ro, hF_zz⟩ (fun e => hAB ro List.mem_cons_self (e ▸ List.mem_cons_self)) (fun e => hAB s (List.mem_cons_of_mem _ List.mem_cons_self) (e ▸ (List.mem_cons_of_mem _ List.mem_cons_self))) (fun e => hAB xx (List.mem_cons_of_mem _ (List.mem_cons_of_mem _ List.mem_cons_self)) (e ▸ (List.mem_cons_of_mem _ (List.mem_cons_of_mem _ List.mem_cons_self)))) (fun e => hAB yy (List.mem_cons_of_mem _ (List.mem_cons_of_mem _ (List.mem_cons_of_mem _ List.mem_cons_self))) (e ▸ (List.mem_cons_of_mem _ (List.mem_cons_of_mem _ (List.mem_cons_of_mem _ List.mem_cons_self))))) (fun e => hAB zz (List.mem_cons_of_mem _ (List.mem_cons_of_mem _ (List.mem_cons_of_mem _ (List.mem_cons_of_mem _ List.mem_cons_self)))) (e ▸ (List.mem_cons_of_mem _ (List.mem_cons_of_mem _ (List.mem_cons_of_mem _ (List.mem_cons_of_mem _ List.mem_cons_self)))))) ha_ST ha_XT ha_YT ha_ZT ha_S ha_X ha_Y ha_Z (by omega) (by omega) (by omega) (by omega) (by omega)) (by omega) (Nat.zero_le _) (Nat.zero_le _) (Nat.le_of_ble_eq_true rfl) (fun r45 V45 h45 => ?_)
        obtain ⟨h45, hX45_0, hX45_1, hX45_2, hX45_3, hX45_4, ⟨fv45_0, hfv45_0, hfp45_0⟩, ⟨fv45_1, hfv45_1, hfp45_1⟩, ⟨fv45_2, hfv45_2, hfp45_2⟩⟩ := h45
        obtain ⟨hW, hx45, hr45⟩ := h45
        have he := he.trans (hx45.sub (jsub_of rfl))
        have hfp := hfp.trans (hX45_4.sub (fun b hb => by simp only [List.mem_cons, List.not_mem_nil, or_false] at hb ⊢; omega))
        have ha0 := ha0.mono hx45.1
        have hb_md := hb_md.mono hx45.1
        have hb_tr := hb_tr.mono hx45.1
        have hb_ro := hb_ro.mono hx45.1
        have hb_s := hb_s.mono hx45.1
        have hb_xx := hb_xx.mono hx45.1
        have hb_yy := hb_yy.mono hx45.1
        have hb_zz := hb_zz.mono hx45.1
        have hb_rb := hb_rb.mono hx45.1
        have hb_sB := hb_sB.mono hx45.1
        have hb_xxB := hb_xxB.mono hx45.1
        have hb_yyB := hb_yyB.mono hx45.1
        have hb_zzB := hb_zzB.mono hx45.1
        have hb_sT := hb_sT.mono hx45.1
        have hb_xxT := hb_xxT.mono hx45.1
        have hb_yyT := hb_yyT.mono hx45.1
        have hb_zzT := hb_zzT.mono hx45.1
        have hO_a0 := hx45.2 _ _ hO_a0 (jnot_of rfl)
        have hK_a0 := hK_a0.mono hx45.1
        have hO_ro := (hX45_4 ro (hAB ro List.mem_cons_self)).trans hO_ro
        have hK_ro := hK_ro.mono hx45.1
        have hO_rb := (hX45_4 rb (hCB rb List.mem_cons_self)).trans hO_rb
        have hK_rb := hK_rb.mono hx45.1
        obtain ⟨fs45tr, hOfs45tr, hRfs45tr⟩ := hx45.1.keep hO_tr
        have hKfs45tr : jokO _ (jFs 1) fs45tr := hW _ _ id hOfs45tr
        have hFfs45tr_1 := hRfs45tr _ _ hF_sT
        have hFfs45tr_2 := hRfs45tr _ _ hF_xxT
        have hFfs45tr_3 := hRfs45tr _ _ hF_yyT
        have hFfs45tr_4 := hRfs45tr _ _ hF_zzT
        have ha_S := (hX45_4 s (hAB s (List.mem_cons_of_mem _ List.mem_cons_self))).trans ha_S
        have ha_X := (hX45_4 xx (hAB xx (List.mem_cons_of_mem _ (List.mem_cons_of_mem _ List.mem_cons_self)))).trans ha_X
        have ha_Y := (hX45_4 yy (hAB yy (List.mem_cons_of_mem _ (List.mem_cons_of_mem _ (List.mem_cons_of_mem _ List.mem_cons_self))))).trans ha_Y
        have ha_Z := (hX45_4 zz (hAB zz (List.mem_cons_of_mem _ (List.mem_cons_of_mem _ (List.mem_cons_of_mem _ (List.mem_cons_of_mem _ List.mem_cons_self)))))).trans ha_Z
        have ha_SB := (hX45_4 sB (hCB sB (List.mem_cons_of_mem _ List.mem_cons_self))).trans ha_SB
        have ha_XB := (hX45_4 xxB (hCB xxB (List.mem_cons_of_mem _ (List.mem_cons_of_mem _ List.mem_cons_self)))).trans ha_XB
        have ha_YB := (hX45_4 yyB (hCB yyB (List.mem_cons_of_mem _ (List.mem_cons_of_mem _ (List.mem_cons_of_mem _ List.mem_cons_self))))).trans ha_YB
        have ha_ZB := (hX45_4 zzB (hCB zzB (List.mem_cons_of_mem _ (List.mem_cons_of_mem _ (List.mem_cons_of_mem _ (List.mem_cons_of_mem _ List.mem_cons_self)))))).trans ha_ZB
        cases hr45
        have hFv45_0 := hfv45_0.get hOfs45tr
        have hsb45_0 : MT = fv45_0 := (jI_inj.mp hfp45_0).symm
        subst hsb45_0
        have hFv45_1 := hfv45_1.get hOfs45tr
        have hsb45_1 : g = fv45_1 := (jI_inj.mp hfp45_1).symm
        subst hsb45_1
        have hFv45_2 := hfv45_2.get hOfs45tr
        have hsb45_2 : n = fv45_2 := (jI_inj.mp hfp45_2).symm
        subst hsb45_2
        obtain ⟨S45, hS45, hSe45⟩ := hX45_0
        obtain ⟨X45, hXa45, hXe45⟩ := hX45_1
        obtain ⟨Y45, hYa45, hYe45⟩ := hX45_2
        obtain ⟨Z45, hZa45, hZe45⟩ := hX45_3
        obtain ⟨hN_S45, hv_S45⟩ := WT_rngI (r := ((-2147483648), 2147483647)) hW id rfl hS45
        clear hN_S45
        obtain ⟨hN_X45, hv_X45⟩ := WT_rngI (r := ((-2147483648), 2147483647)) hW id rfl hXa45
        clear hN_X45
        obtain ⟨hN_Y45, hv_Y45⟩ := WT_rngI (r := ((-2147483648), 2147483647)) hW id rfl hYa45
        clear hN_Y45
        obtain ⟨hN_Z45, hv_Z45⟩ := WT_rngI (r := ((-2147483648), 2147483647)) hW id rfl hZa45
        clear hN_Z45
        refine Jz_iconst 0 dX6_join_48 (by decide) (fun y48 he48 => ?_)
        refine J_istore dX6_join_49 rfl (by decide) ?_
        have L51 : ∀ (N : Nat) (V : jH) (i5n51 : Int32) (gs51tr : List Value) (g6n51 : Int32) (F6n51 : Nat → Int32) (F34n51 : Nat → Int32) (F35n51 : Nat → Int32) (F36n51 : Nat → Int32), WT V → jeff [.inr 1, .inl 6, .inl 34, .inl 35, .inl 36] V0 V → (jis V (.inr 4) a0) → (jis V (.inl 4) md) → (jis V (.inr 1) tr) → (jis V (.inr 1) ro) → (jis V (.inl 6) s) → (jis V (.inl 34) xx) → (jis V (.inl 35) yy) → (jis V (.inl 36) zz) → (jis V (.inr 1) rb) → (jis V (.inl 6) sB) → (jis V (.inl 34) xxB) → (jis V (.inl 35) yyB) → (jis V (.inl 36) zzB) → (jis V (.inl 6) sT) → (jis V (.inl 34) xxT) → (jis V (.inl 35) yyT) → (jis V (.inl 36) zzT) → (jfp [tr, sT, xxT, yyT, zzT] V0 V) → (V a0 = some (.inr (4, fs_a0))) → (jokO V (jFs 4) fs_a0) → (V ro = some (.inr (1, fs_ro))) → (jokO V (jFs 1) fs_ro) → (V rb = some (.inr (1, fs_rb))) → (jokO V (jFs 1) fs_rb) → (V tr = some (.inr (1, gs51tr))) → (gs51tr[1]? = some (.ref sT)) → (gs51tr[2]? = some (.ref xxT)) → (gs51tr[3]? = some (.ref yyT)) → (gs51tr[4]? = some (.ref zzT)) → (gs51tr[0]? = some (.int MT)) → (gs51tr[5]? = some (.int g)) → (gs51tr[6]? = some (.int g6n51)) → (V sT = some (.inl (6, 120, .inl F6n51))) → (V xxT = some (.inl (34, 121, .inl F34n51))) → (V yyT = some (.inl (35, 121, .inl F35n51))) → (V zzT = some (.inl (36, 121, .inl F36n51))) → (V s = some (.inl (6, 60, .inl S))) → (V xx = some (.inl (34, 61, .inl X))) → (V yy = some (.inl (35, 61, .inl Y))) → (V zz = some (.inl (36, 61, .inl Z))) → (V sB = some (.inl (6, 60, .inl SB))) → (V xxB = some (.inl (34, 61, .inl XB))) → (V yyB = some (.inl (35, 61, .inl YB))) → (V zzB = some (.inl (36, 61, .inl ZB))) → (0 ≤ i5n51.toInt ∧ i5n51.toInt ≤ nB.toInt) → (g6n51.toInt = n.toInt + i5n51.toInt) → (∀ j : Nat, (j : Int) < g6n51.toInt → (F6n51 j).toInt = (jTj (fun q => (S q).toInt) n.toInt.toNat (fun q => (SB q).toInt)) j) → (jrv g.toInt (jTj (fun q => (S q).toInt) n.toInt.toNat (fun q => (SB q).toInt)) g6n51.toInt.toNat F34n51 F35n51 F36n51) → (jav g.toInt (jTj (fun q => (S q).toInt) n.toInt.toNat (fun q => (SB q).toInt)) g6n51.toInt.toNat) → (300 - i5n51.toInt).toNat < N → J tS mX6_join d 51 [some (.ref a0), some (.int x1), some (.int x2), some (.ref ro), some (.ref rb), some (.int i5n51)] [] V 0 0 (fun r V => (jPost [.inr 1, .inl 6, .inl 34, .inl 35, .inl 36] V0 (fun r _ => ∃ y : Int32, r = some (.int y) ∧ ((-2147483648) ≤ y.toInt) ∧ (y.toInt ≤ 2147483647) ∧ (y.toInt = -3))) r V ∧ (∃ (g2 n2 : Int) (S2 X2 Y2 Z2 : Nat → Int32), jrw V tr sT xxT yyT zzT 120 g2 n2 S2 X2 Y2 Z2 ∧ (X2 0).toInt = 0 ∧ (Y2 0).toInt = 0 ∧ (Z2 0).toInt = 0) ∧ jfp [tr, sT, xxT, yyT, zzT] V0 V) := by
          intro N
          induction N with
          | zero => intro V i5n51 gs51tr g6n51 F6n51 F34n51 F35n51 F36n51 hW he ha0 hb_md hb_tr hb_ro hb_s hb_xx hb_yy hb_zz hb_rb hb_sB hb_xxB hb_yyB hb_zzB hb_sT hb_xxT hb_yyT hb_zzT hfp hO_a0 hK_a0 hO_ro hK_ro hO_rb hK_rb hOgs51tr hFgs51tr_1 hFgs51tr_2 hFgs51tr_3 hFgs51tr_4 hFgs51tr_0 hFgs51tr_5 hFgs51tr_6 hAF6n51 hAF34n51 hAF35n51 hAF36n51 ha_S ha_X ha_Y ha_Z ha_SB ha_XB ha_YB ha_ZB hi htn hts hjv hav hm; exact absurd hm (Nat.not_lt_zero _)
          | succ N ih =>
            intro V i5n51 gs51tr g6n51 F6n51 F34n51 F35n51 F36n51 hW he ha0 hb_md hb_tr hb_ro hb_s hb_xx hb_yy hb_zz hb_rb hb_sB hb_xxB hb_yyB hb_zzB hb_sT hb_xxT hb_yyT hb_zzT hfp hO_a0 hK_a0 hO_ro hK_ro hO_rb hK_rb hOgs51tr hFgs51tr_1 hFgs51tr_2 hFgs51tr_3 hFgs51tr_4 hFgs51tr_0 hFgs51tr_5 hFgs51tr_6 hAF6n51 hAF34n51 hAF35n51 hAF36n51 ha_S ha_X ha_Y ha_Z ha_SB ha_XB ha_YB ha_ZB hi htn hts hjv hav hm
            have ih51 := ih
            have hri5 := j_rng i5n51
            have hKgs51tr : jokO V (jFs 1) gs51tr := hW _ _ id hOgs51tr
            have hrgg6n51 : 0 ≤ g6n51.toInt ∧ g6n51.toInt ≤ 120 := jok_rngI hKgs51tr rfl hFgs51tr_6
            obtain ⟨hNF6n51, hvF6n51⟩ := WT_rngI (r := ((-2147483648), 2147483647)) hW id rfl hAF6n51
            clear hNF6n51
            obtain ⟨hNF34n51, hvF34n51⟩ := WT_rngI (r := ((-2147483648), 2147483647)) hW id rfl hAF34n51
            clear hNF34n51
            obtain ⟨hNF35n51, hvF35n51⟩ := WT_rngI (r := ((-2147483648), 2147483647)) hW id rfl hAF35n51
            clear hNF35n51
            obtain ⟨hNF36n51, hvF36n51⟩ := WT_rngI (r := ((-2147483648), 2147483647)) hW id rfl hAF36n51
            clear hNF36n51
            refine J_iload dX6_join_51 rfl ?_
            refine J_aload dX6_join_53 rfl ?_
            refine J_get jf_X6_69 dX6_join_55 hO_rb hF_nB ?_
            refine Jz_icmp_ge (tgt := 87) jEq.rf jEq.rf dX6_join_58 (by decide) (fun c58 => ?_) (fun c58 => ?_)
            · exact False.elim (hp13 (by rw [show (n.toInt + nB.toInt).toNat = g6n51.toInt.toNat by omega]; exact hav))
            · refine J_aload_n dX6_join_61 rfl ?_
              refine J_get jf_X6_22 dX6_join_62 hO_a0 hF_tr ?_
              refine J_aload dX6_join_65 rfl ?_
              refine J_iload dX6_join_67 rfl ?_
              refine Jw_callV1 (q9 := (RX3, TX3, 7)) moX3_direction jw_ml_X6_81 jw_im_X3_direction jw_se_X3_direction hb_rb rfl rfl dX6_join_69 (w_X3_direction_z (d - 1) _ rb i5n51 sB SB (by omega) hW  hb_rb ⟨_, hO_rb, hF_sB⟩ ha_SB (by omega) (by omega) (by omega)) (by omega) (Nat.zero_le _) (Nat.zero_le _) (Nat.le_of_ble_eq_true rfl) (fun r69 V69 h69 => ?_)
              obtain ⟨⟨y69, rfl, hl69, hh69, hP69_0⟩, hE69⟩ := h69
              have hE69 := hE69.symm
              subst hE69
              clear hl69 hh69
              have hz69 : jEq y69.toInt ((SB (i5n51.toInt).toNat).toInt) := hP69_0
              clear hP69_0
              have hsd := hp7 i5n51.toInt.toNat (by omega)
              rw [← hp6] at hsd
              have htp : (jTj (fun q => (S q).toInt) n.toInt.toNat (fun q => (SB q).toInt)) g6n51.toInt.toNat = y69.toInt := (by unfold jTj; rw [if_neg (by omega)]; (show (SB _).toInt = _); rw [show g6n51.toInt.toNat - n.toInt.toNat = i5n51.toInt.toNat by omega]; exact (hz69.eq).symm)
              have hbx := hjv.b g6n51.toInt.toNat (Nat.le_refl _)
              by_cases hcc : jav g.toInt (jTj (fun q => (S q).toInt) n.toInt.toNat (fun q => (SB q).toInt)) (g6n51.toInt.toNat + 1)
              · refine Jw_callV1 (q9 := (RX3, TX3, 7)) moX3_lay jw_ml_X6_72 jw_im_X3_lay jw_se_X3_lay hb_tr rfl rfl dX6_join_72 (w_X3_lay_yes (d - 1) _ tr y69 MT g g6n51 sT xxT yyT zzT F6n51 F34n51 F35n51 F36n51 (by omega) hW  hb_tr ⟨_, hOgs51tr, hFgs51tr_0⟩ ⟨_, hOgs51tr, hFgs51tr_5⟩ ⟨_, hOgs51tr, hFgs51tr_6⟩ ⟨_, hOgs51tr, hFgs51tr_1⟩ ⟨_, hOgs51tr, hFgs51tr_2⟩ ⟨_, hOgs51tr, hFgs51tr_3⟩ ⟨_, hOgs51tr, hFgs51tr_4⟩ hAF6n51 hAF34n51 hAF35n51 hAF36n51 (by omega) (by omega) (by omega) (by omega) (by omega) (by first | omega | (simp only [hz69.eq]; omega)) (by first | omega | (simp only [hz69.eq]; omega)) (by omega) (by omega) (by omega) (by omega) (by omega) (by omega) (by omega) (fun j hj q => (jav_succ.mp hcc).2 j (by omega) ((hjv.next (by omega)).mpr (by rw [htp]; exact q)))) (by omega) (Nat.zero_le _) (Nat.zero_le _) (Nat.le_of_ble_eq_true rfl) (fun r72 V72 h72 => ?_)
                obtain ⟨h72, hX72_0, hX72_1, hX72_2, hX72_3, hX72_4, ⟨fv72_0, hfv72_0, hfp72_0⟩, ⟨fv72_1, hfv72_1, hfp72_1⟩, ⟨fv72_2, hfv72_2, hfp72_2⟩⟩ := h72
                obtain ⟨hW, hx72, hr72⟩ := h72
                have he := he.trans (hx72.sub (jsub_of rfl))
                have hfp := hfp.trans (hX72_4.sub (fun b hb => by simp only [List.mem_cons, List.not_mem_nil, or_false] at hb ⊢; omega))
                have ha0 := ha0.mono hx72.1
                have hb_md := hb_md.mono hx72.1
                have hb_tr := hb_tr.mono hx72.1
                have hb_ro := hb_ro.mono hx72.1
                have hb_s := hb_s.mono hx72.1
                have hb_xx := hb_xx.mono hx72.1
                have hb_yy := hb_yy.mono hx72.1
                have hb_zz := hb_zz.mono hx72.1
                have hb_rb := hb_rb.mono hx72.1
                have hb_sB := hb_sB.mono hx72.1
                have hb_xxB := hb_xxB.mono hx72.1
                have hb_yyB := hb_yyB.mono hx72.1
                have hb_zzB := hb_zzB.mono hx72.1
                have hb_sT := hb_sT.mono hx72.1
                have hb_xxT := hb_xxT.mono hx72.1
                have hb_yyT := hb_yyT.mono hx72.1
                have hb_zzT := hb_zzT.mono hx72.1
                have hO_a0 := hx72.2 _ _ hO_a0 (jnot_of rfl)
                have hK_a0 := hK_a0.mono hx72.1
                have hO_ro := (hX72_4 ro (hAB ro List.mem_cons_self)).trans hO_ro
                have hK_ro := hK_ro.mono hx72.1
                have hO_rb := (hX72_4 rb (hCB rb List.mem_cons_self)).trans hO_rb
                have hK_rb := hK_rb.mono hx72.1
                obtain ⟨fs72tr, hOfs72tr, hRfs72tr⟩ := hx72.1.keep hOgs51tr
                have hKfs72tr : jokO _ (jFs 1) fs72tr := hW _ _ id hOfs72tr
                have hFfs72tr_1 := hRfs72tr _ _ hFgs51tr_1
                have hFfs72tr_2 := hRfs72tr _ _ hFgs51tr_2
                have hFfs72tr_3 := hRfs72tr _ _ hFgs51tr_3
                have hFfs72tr_4 := hRfs72tr _ _ hFgs51tr_4
                have ha_S := (hX72_4 s (hAB s (List.mem_cons_of_mem _ List.mem_cons_self))).trans ha_S
                have ha_X := (hX72_4 xx (hAB xx (List.mem_cons_of_mem _ (List.mem_cons_of_mem _ List.mem_cons_self)))).trans ha_X
                have ha_Y := (hX72_4 yy (hAB yy (List.mem_cons_of_mem _ (List.mem_cons_of_mem _ (List.mem_cons_of_mem _ List.mem_cons_self))))).trans ha_Y
                have ha_Z := (hX72_4 zz (hAB zz (List.mem_cons_of_mem _ (List.mem_cons_of_mem _ (List.mem_cons_of_mem _ (List.mem_cons_of_mem _ List.mem_cons_self)))))).trans ha_Z
                have ha_SB := (hX72_4 sB (hCB sB (List.mem_cons_of_mem _ List.mem_cons_self))).trans ha_SB
                have ha_XB := (hX72_4 xxB (hCB xxB (List.mem_cons_of_mem _ (List.mem_cons_of_mem _ List.mem_cons_self)))).trans ha_XB
                have ha_YB := (hX72_4 yyB (hCB yyB (List.mem_cons_of_mem _ (List.mem_cons_of_mem _ (List.mem_cons_of_mem _ List.mem_cons_self))))).trans ha_YB
                have ha_ZB := (hX72_4 zzB (hCB zzB (List.mem_cons_of_mem _ (List.mem_cons_of_mem _ (List.mem_cons_of_mem _ (List.mem_cons_of_mem _ List.mem_cons_self)))))).trans ha_ZB
                obtain ⟨y72, rfl, hl72, hh72, hP72_0⟩ := hr72
                try simp only [hz69.eq] at hP72_0
                have hFv72_0 := hfv72_0.get hOfs72tr
                try simp only [hz69.eq] at hfp72_0
                have hzf72_0 : jEq fv72_0.toInt ((g6n51.toInt) + 1) := hfp72_0
                clear hfp72_0
                have hFv72_1 := hfv72_1.get hOfs72tr
                try simp only [hz69.eq] at hfp72_1
                have hsb72_1 : MT = fv72_1 := (jI_inj.mp hfp72_1).symm
                subst hsb72_1
                have hFv72_2 := hfv72_2.get hOfs72tr
                try simp only [hz69.eq] at hfp72_2
                have hsb72_2 : g = fv72_2 := (jI_inj.mp hfp72_2).symm
                subst hsb72_2
                obtain ⟨S72, hS72, hSn72, hSo72⟩ := hX72_0
                obtain ⟨X72, hXa72, hXn72, hXo72⟩ := hX72_1
                obtain ⟨Y72, hYa72, hYn72, hYo72⟩ := hX72_2
                obtain ⟨Z72, hZa72, hZn72, hZo72⟩ := hX72_3
                obtain ⟨hN_S72, hv_S72⟩ := WT_rngI (r := ((-2147483648), 2147483647)) hW id rfl hS72
                clear hN_S72
                obtain ⟨hN_X72, hv_X72⟩ := WT_rngI (r := ((-2147483648), 2147483647)) hW id rfl hXa72
                clear hN_X72
                obtain ⟨hN_Y72, hv_Y72⟩ := WT_rngI (r := ((-2147483648), 2147483647)) hW id rfl hYa72
                clear hN_Y72
                obtain ⟨hN_Z72, hv_Z72⟩ := WT_rngI (r := ((-2147483648), 2147483647)) hW id rfl hZa72
                clear hN_Z72
                refine Jz_if_ne (tgt := 81) jEq.rf dX6_join_75 (by decide) (fun c75 => ?_) (fun c75 => ?_)
                · refine Jz_iinc 1 dX6_join_81 rfl rfl (by decide) jEq.rf (by decide) (by omega) (by omega) (fun y81 he81 => ?_)
                  refine J_goto (tgt := 51) dX6_join_84 (by decide) ?_
                  refine J.mask [true, true, true, true, true, true] ?_
                  exact ih51 _ y81 fs72tr fv72_0 S72 X72 Y72 Z72 hW he ha0 hb_md hb_tr hb_ro hb_s hb_xx hb_yy hb_zz hb_rb hb_sB hb_xxB hb_yyB hb_zzB hb_sT hb_xxT hb_yyT hb_zzT hfp hO_a0 hK_a0 hO_ro hK_ro hO_rb hK_rb hOfs72tr hFfs72tr_1 hFfs72tr_2 hFfs72tr_3 hFfs72tr_4 hFv72_1 hFv72_2 hFv72_0 hS72 hXa72 hYa72 hZa72 ha_S ha_X ha_Y ha_Z ha_SB ha_XB ha_YB ha_ZB (by (try simp only [he81.eq, hzf72_0.eq, true_and, and_true]) <;> omega) (by (try simp only [he81.eq, hzf72_0.eq, true_and, and_true]) <;> omega) (fun j hj => by rw [hzf72_0.eq] at hj; by_cases c : (j : Int) = g6n51.toInt; (have e : j = g6n51.toInt.toNat := by omega); subst e; rw [hSn72, htp]; rw [hSo72 j (by omega)]; exact hts j (by omega)) (by rw [hzf72_0.eq, show (g6n51.toInt + 1).toNat = g6n51.toInt.toNat + 1 by omega]; exact hjv.lay (by rw [hXn72, htp]) (by rw [hYn72, htp]) (by rw [hZn72, htp]) hXo72 hYo72 hZo72) (by rw [hzf72_0.eq, show (g6n51.toInt + 1).toNat = g6n51.toInt.toNat + 1 by omega]; exact hcc) (by (try simp only [he81.eq, hzf72_0.eq, true_and, and_true]) <;> omega)
                · exact False.elim (by omega)
              · refine Jw_callV1 (q9 := (RX3, TX3, 7)) moX3_lay jw_ml_X6_72 jw_im_X3_lay jw_se_X3_lay hb_tr rfl rfl dX6_join_72 (w_X3_lay_no (d - 1) _ tr y69 MT g g6n51 sT xxT yyT zzT F6n51 F34n51 F35n51 F36n51 (by omega) hW  hb_tr ⟨_, hOgs51tr, hFgs51tr_0⟩ ⟨_, hOgs51tr, hFgs51tr_5⟩ ⟨_, hOgs51tr, hFgs51tr_6⟩ ⟨_, hOgs51tr, hFgs51tr_1⟩ ⟨_, hOgs51tr, hFgs51tr_2⟩ ⟨_, hOgs51tr, hFgs51tr_3⟩ ⟨_, hOgs51tr, hFgs51tr_4⟩ hAF6n51 hAF34n51 hAF35n51 hAF36n51 (by omega) (by omega) (by omega) (by omega) (by omega) (by first | omega | (simp only [hz69.eq]; omega)) (by first | omega | (simp only [hz69.eq]; omega)) (by omega) (by omega) (by omega) (by omega) (by omega) (by omega) (Or.inr (by obtain ⟨i, h1, h2⟩ := jav_not hav hcc; exact ⟨i, by omega, by have q := (hjv.next h1).mp h2; rw [htp] at q; exact q⟩))) (by omega) (Nat.zero_le _) (Nat.zero_le _) (Nat.le_of_ble_eq_true rfl) (fun r72 V72 h72 => ?_)
                obtain ⟨⟨y72, rfl, hl72, hh72, hP72_0⟩, hE72⟩ := h72
                have hE72 := hE72.symm
                subst hE72
                try simp only [hz69.eq] at hP72_0
                refine Jz_if_ne (tgt := 81) jEq.rf dX6_join_75 (by decide) (fun c75 => ?_) (fun c75 => ?_)
                · exact False.elim (by omega)
                · refine Jz_bipush (-3) dX6_join_78 (by decide) (fun y78 he78 => ?_)
                  exact J_ret (r := some (.int _)) dX6_join_80 ⟨rfl, _, rfl, rfl⟩ (⟨⟨hW, he, ⟨_, rfl, (j_rng _).1, (j_rng _).2, (by (try simp only [he78.eq, true_and, and_true]) <;> omega)⟩⟩, ⟨_, _, _, _, _, _, ⟨⟨_, ⟨_, hOgs51tr, hFgs51tr_0⟩, hm_tr⟩, ⟨_, ⟨_, hOgs51tr, hFgs51tr_5⟩, rfl⟩, ⟨_, ⟨_, hOgs51tr, hFgs51tr_6⟩, rfl⟩, ⟨_, hOgs51tr, hFgs51tr_1⟩, ⟨_, hOgs51tr, hFgs51tr_2⟩, ⟨_, hOgs51tr, hFgs51tr_3⟩, ⟨_, hOgs51tr, hFgs51tr_4⟩, hAF6n51, hAF34n51, hAF35n51, hAF36n51⟩, (hjv 0 (Nat.zero_le _))⟩, hfp⟩)
        refine J.mask [true, true, true, true, true, true] ?_
        exact L51 _ _ y48 fs45tr n S45 X45 Y45 Z45 hW he ha0 hb_md hb_tr hb_ro hb_s hb_xx hb_yy hb_zz hb_rb hb_sB hb_xxB hb_yyB hb_zzB hb_sT hb_xxT hb_yyT hb_zzT hfp hO_a0 hK_a0 hO_ro hK_ro hO_rb hK_rb hOfs45tr hFfs45tr_1 hFfs45tr_2 hFfs45tr_3 hFfs45tr_4 hFv45_0 hFv45_1 hFv45_2 hS45 hXa45 hYa45 hZa45 ha_S ha_X ha_Y ha_Z ha_SB ha_XB ha_YB ha_ZB (by (try simp only [he48.eq, true_and, and_true]) <;> omega) (by (try simp only [he48.eq, true_and, and_true]) <;> omega) (fun j hj => by rw [hSe45 j hj]; unfold jTj; rw [if_pos (by omega)]) (by intro i hi; rw [hXe45 i (by omega), hYe45 i (by omega), hZe45 i (by omega)]; exact (hp11.congr (fun q hq => by unfold jTj; rw [if_pos hq])) i hi) (hp12.congr (fun q hq => by unfold jTj; rw [if_pos hq])) (Nat.lt_succ_self _)
      · exact False.elim (by omega)
set_option maxRecDepth 100000 in
set_option maxHeartbeats 8000000 in
theorem w_X6_join_full {tS : jTS} (d : Nat) (V0 : jH) (a0 : Nat) (x1 : Int32) (x2 : Int32) (k : Int32) (md : Nat) (tr : Nat) (f : Nat → Option Nat) (ro : Nat) (M : Int32) (g : Int32) (n : Int32) (s : Nat) (xx : Nat) (yy : Nat) (zz : Nat) (S : Nat → Int32) (X : Nat → Int32) (Y : Nat → Int32) (Z : Nat → Int32) (rb : Nat) (MB : Int32) (gB : Int32) (nB : Int32) (sB : Nat) (xxB : Nat) (yyB : Nat) (zzB : Nat) (SB : Nat → Int32) (XB : Nat → Int32) (YB : Nat → Int32) (ZB : Nat → Int32) (MT : Int32) (gT : Int32) (nT : Int32) (sT : Nat) (xxT : Nat) (yyT : Nat) (zzT : Nat) (ST : Nat → Int32) (XT : Nat → Int32) (YT : Nat → Int32) (ZT : Nat → Int32) (hd : 4 ≤ d) (hW : WT V0) (ha0 : jis V0 (.inr 4) a0) (hf_k : jfI V0 a0 4 1 k) (hr_md : jfR V0 a0 4 0 md) (hr_tr : jfR V0 a0 4 2 tr) (ha_f : V0 md = some (.inl (4, 16, .inr (.inr (.inr (.inr f)))))) (hf_M : jfI V0 ro 1 0 M) (hf_g : jfI V0 ro 1 5 g) (hf_n : jfI V0 ro 1 6 n) (hr_s : jfR V0 ro 1 1 s) (hr_xx : jfR V0 ro 1 2 xx) (hr_yy : jfR V0 ro 1 3 yy) (hr_zz : jfR V0 ro 1 4 zz) (ha_S : V0 s = some (.inl (6, 60, .inl S))) (ha_X : V0 xx = some (.inl (34, 61, .inl X))) (ha_Y : V0 yy = some (.inl (35, 61, .inl Y))) (ha_Z : V0 zz = some (.inl (36, 61, .inl Z))) (hm_ro : M.toInt = 60) (hn_ro : n.toInt ≤ 60) (hfo : f x1.toInt.toNat = some ro) (hf_MB : jfI V0 rb 1 0 MB) (hf_gB : jfI V0 rb 1 5 gB) (hf_nB : jfI V0 rb 1 6 nB) (hr_sB : jfR V0 rb 1 1 sB) (hr_xxB : jfR V0 rb 1 2 xxB) (hr_yyB : jfR V0 rb 1 3 yyB) (hr_zzB : jfR V0 rb 1 4 zzB) (ha_SB : V0 sB = some (.inl (6, 60, .inl SB))) (ha_XB : V0 xxB = some (.inl (34, 61, .inl XB))) (ha_YB : V0 yyB = some (.inl (35, 61, .inl YB))) (ha_ZB : V0 zzB = some (.inl (36, 61, .inl ZB))) (hm_rb : MB.toInt = 60) (hn_rb : nB.toInt ≤ 60) (hfb : f x2.toInt.toNat = some rb) (hf_MT : jfI V0 tr 1 0 MT) (hf_gT : jfI V0 tr 1 5 gT) (hf_nT : jfI V0 tr 1 6 nT) (hr_sT : jfR V0 tr 1 1 sT) (hr_xxT : jfR V0 tr 1 2 xxT) (hr_yyT : jfR V0 tr 1 3 yyT) (hr_zzT : jfR V0 tr 1 4 zzT) (ha_ST : V0 sT = some (.inl (6, 120, .inl ST))) (ha_XT : V0 xxT = some (.inl (34, 121, .inl XT))) (ha_YT : V0 yyT = some (.inl (35, 121, .inl YT))) (ha_ZT : V0 zzT = some (.inl (36, 121, .inl ZT))) (hm_tr : MT.toInt = 120) (hn_tr : nT.toInt ≤ 120) (hAB : ∀ b ∈ [ro, s, xx, yy, zz], b ∉ [tr, sT, xxT, yyT, zzT]) (hBA : ∀ b ∈ [tr, sT, xxT, yyT, zzT], b ∉ [ro, s, xx, yy, zz]) (hCB : ∀ b ∈ [rb, sB, xxB, yyB, zzB], b ∉ [tr, sT, xxT, yyT, zzT]) (hp0 : 0 ≤ x1.toInt) (hp1 : x1.toInt < k.toInt) (hp2 : 0 ≤ x2.toInt) (hp3 : x2.toInt < k.toInt) (hp4 : 0 ≤ g.toInt) (hp5 : g.toInt ≤ 3) (hp6 : g.toInt = gB.toInt) (hp7 : ∀ j : Nat, (j : Int) < nB.toInt → 0 ≤ (SB j).toInt ∧ (SB j).toInt < jdir gB.toInt) (hp8 : (XT 0).toInt = 0) (hp9 : (YT 0).toInt = 0) (hp10 : (ZT 0).toInt = 0) (hp11 : jrv g.toInt (fun q => (S q).toInt) n.toInt.toNat X Y Z) (hp12 : jav g.toInt (fun q => (S q).toInt) n.toInt.toNat) (hp13 : jav g.toInt (jTj (fun q => (S q).toInt) n.toInt.toNat (fun q => (SB q).toInt)) (n.toInt + nB.toInt).toNat) (hp14 : 60 < (n.toInt + nB.toInt)) : jTot tS mX6_join d [.ref a0, .int x1, .int x2] V0 0 0 (fun r V => (jPost [.inr 1, .inl 6, .inl 34, .inl 35, .inl 36] V0 (fun r _ => ∃ y : Int32, r = some (.int y) ∧ ((-2147483648) ≤ y.toInt) ∧ (y.toInt ≤ 2147483647) ∧ (y.toInt = -4))) r V ∧ (∃ (g2 n2 : Int) (S2 X2 Y2 Z2 : Nat → Int32), jrw V tr sT xxT yyT zzT 120 g2 n2 S2 X2 Y2 Z2 ∧ (X2 0).toInt = 0 ∧ (Y2 0).toInt = 0 ∧ (Z2 0).toInt = 0) ∧ jfp [tr, sT, xxT, yyT, zzT] V0 V) := by
  refine jTot.of_J [some (.ref a0), some (.int x1), some (.int x2), none, none, none] moX6_join (Nat.le_of_ble_eq_true rfl) rfl ?_
  have hrx1 := j_rng x1
  have hrx2 := j_rng x2
  have he : jeff [.inr 1, .inl 6, .inl 34, .inl 35, .inl 36] V0 V0 := jeff.refl _ _
  have hfp : jfp [tr, sT, xxT, yyT, zzT] V0 V0 := jfp.rf
  obtain ⟨fs_a0, hO_a0, hK_a0⟩ := WT_obj hW id ha0
  have hF_k := hf_k.get hO_a0
  have hrk : 0 ≤ k.toInt ∧ k.toInt ≤ 16 := jok_rngI hK_a0 rfl hF_k
  have hF_md := hr_md.get hO_a0
  obtain ⟨w_md, hFq_md, b_md, hbq_md, hb_md⟩ := hK_a0.2 0 (.inr (some (.inl 4))) rfl
  cases hF_md.symm.trans (hFq_md.trans (congrArg some hbq_md))
  have hF_tr := hr_tr.get hO_a0
  obtain ⟨w_tr, hFq_tr, b_tr, hbq_tr, hb_tr⟩ := hK_a0.2 2 (.inr (some (.inr 1))) rfl
  cases hF_tr.symm.trans (hFq_tr.trans (congrArg some hbq_tr))
  have hb_ro : jis V0 (.inr 1) ro := by obtain ⟨q1, q2, q3⟩ := hf_M; exact ⟨_, q2, rfl⟩
  obtain ⟨fs_ro, hO_ro, hK_ro⟩ := WT_obj hW id hb_ro
  have hF_M := hf_M.get hO_ro
  have hrM : 0 ≤ M.toInt ∧ M.toInt ≤ 120 := jok_rngI hK_ro rfl hF_M
  have hF_g := hf_g.get hO_ro
  have hrg : (-2147483648) ≤ g.toInt ∧ g.toInt ≤ 2147483647 := jok_rngI hK_ro rfl hF_g
  have hF_n := hf_n.get hO_ro
  have hrn : 0 ≤ n.toInt ∧ n.toInt ≤ 120 := jok_rngI hK_ro rfl hF_n
  have hF_s := hr_s.get hO_ro
  have hb_s : jis V0 (.inl 6) s := ⟨_, ha_S, rfl⟩
  obtain ⟨hN_S, hv_S⟩ := WT_rngI (r := (-2147483648, 2147483647)) hW id rfl ha_S
  clear hN_S
  have hF_xx := hr_xx.get hO_ro
  have hb_xx : jis V0 (.inl 34) xx := ⟨_, ha_X, rfl⟩
  obtain ⟨hN_X, hv_X⟩ := WT_rngI (r := (-2147483648, 2147483647)) hW id rfl ha_X
  clear hN_X
  have hF_yy := hr_yy.get hO_ro
  have hb_yy : jis V0 (.inl 35) yy := ⟨_, ha_Y, rfl⟩
  obtain ⟨hN_Y, hv_Y⟩ := WT_rngI (r := (-2147483648, 2147483647)) hW id rfl ha_Y
  clear hN_Y
  have hF_zz := hr_zz.get hO_ro
  have hb_zz : jis V0 (.inl 36) zz := ⟨_, ha_Z, rfl⟩
  obtain ⟨hN_Z, hv_Z⟩ := WT_rngI (r := (-2147483648, 2147483647)) hW id rfl ha_Z
  clear hN_Z
  have hb_rb : jis V0 (.inr 1) rb := by obtain ⟨q1, q2, q3⟩ := hf_MB; exact ⟨_, q2, rfl⟩
  obtain ⟨fs_rb, hO_rb, hK_rb⟩ := WT_obj hW id hb_rb
  have hF_MB := hf_MB.get hO_rb
  have hrMB : 0 ≤ MB.toInt ∧ MB.toInt ≤ 120 := jok_rngI hK_rb rfl hF_MB
  have hF_gB := hf_gB.get hO_rb
  have hrgB : (-2147483648) ≤ gB.toInt ∧ gB.toInt ≤ 2147483647 := jok_rngI hK_rb rfl hF_gB
  have hF_nB := hf_nB.get hO_rb
  have hrnB : 0 ≤ nB.toInt ∧ nB.toInt ≤ 120 := jok_rngI hK_rb rfl hF_nB
  have hF_sB := hr_sB.get hO_rb
  have hb_sB : jis V0 (.inl 6) sB := ⟨_, ha_SB, rfl⟩
  obtain ⟨hN_SB, hv_SB⟩ := WT_rngI (r := (-2147483648, 2147483647)) hW id rfl ha_SB
  clear hN_SB
  have hF_xxB := hr_xxB.get hO_rb
  have hb_xxB : jis V0 (.inl 34) xxB := ⟨_, ha_XB, rfl⟩
  obtain ⟨hN_XB, hv_XB⟩ := WT_rngI (r := (-2147483648, 2147483647)) hW id rfl ha_XB
  clear hN_XB
  have hF_yyB := hr_yyB.get hO_rb
  have hb_yyB : jis V0 (.inl 35) yyB := ⟨_, ha_YB, rfl⟩
  obtain ⟨hN_YB, hv_YB⟩ := WT_rngI (r := (-2147483648, 2147483647)) hW id rfl ha_YB
  clear hN_YB
  have hF_zzB := hr_zzB.get hO_rb
  have hb_zzB : jis V0 (.inl 36) zzB := ⟨_, ha_ZB, rfl⟩
  obtain ⟨hN_ZB, hv_ZB⟩ := WT_rngI (r := (-2147483648, 2147483647)) hW id rfl ha_ZB
  clear hN_ZB
  obtain ⟨fs_tr, hO_tr, hK_tr⟩ := WT_obj hW id hb_tr
  have hF_MT := hf_MT.get hO_tr
  have hrMT : 0 ≤ MT.toInt ∧ MT.toInt ≤ 120 := jok_rngI hK_tr rfl hF_MT
  have hF_gT := hf_gT.get hO_tr
  have hrgT : (-2147483648) ≤ gT.toInt ∧ gT.toInt ≤ 2147483647 := jok_rngI hK_tr rfl hF_gT
  have hF_nT := hf_nT.get hO_tr
  have hrnT : 0 ≤ nT.toInt ∧ nT.toInt ≤ 120 := jok_rngI hK_tr rfl hF_nT
  have hF_sT := hr_sT.get hO_tr
  have hb_sT : jis V0 (.inl 6) sT := ⟨_, ha_ST, rfl⟩
  obtain ⟨hN_ST, hv_ST⟩ := WT_rngI (r := (-2147483648, 2147483647)) hW id rfl ha_ST
  clear hN_ST
  have hF_xxT := hr_xxT.get hO_tr
  have hb_xxT : jis V0 (.inl 34) xxT := ⟨_, ha_XT, rfl⟩
  obtain ⟨hN_XT, hv_XT⟩ := WT_rngI (r := (-2147483648, 2147483647)) hW id rfl ha_XT
  clear hN_XT
  have hF_yyT := hr_yyT.get hO_tr
  have hb_yyT : jis V0 (.inl 35) yyT := ⟨_, ha_YT, rfl⟩
  obtain ⟨hN_YT, hv_YT⟩ := WT_rngI (r := (-2147483648, 2147483647)) hW id rfl ha_YT
  clear hN_YT
  have hF_zzT := hr_zzT.get hO_tr
  have hb_zzT : jis V0 (.inl 36) zzT := ⟨_, ha_ZT, rfl⟩
  obtain ⟨hN_ZT, hv_ZT⟩ := WT_rngI (r := (-2147483648, 2147483647)) hW id rfl ha_ZT
  clear hN_ZT
  refine J_aload_n dX6_join_0 rfl ?_
  refine J_iload_n dX6_join_1 rfl ?_
  refine Jw_callV1 (q9 := (RX6, TX6, 7)) moX6_rowOf jw_ml_X6_55 jw_im_X6_rowOf jw_se_X6_rowOf ha0 rfl rfl dX6_join_2 (w_X6_rowOf_in (d - 1) _ a0 x1 hO_a0 hF_md hF_k ha_f (by omega) (by omega) (by omega) hfo) (by omega) (Nat.zero_le _) (Nat.zero_le _) (Nat.le_of_ble_eq_true rfl) (fun r2 V2 h2 => ?_)
  obtain ⟨rfl, hE2⟩ := h2
  have hE2 := hE2.symm
  subst hE2
  · refine J_astore_n dX6_join_5 rfl (by decide) ?_
    refine J_aload_n dX6_join_6 rfl ?_
    refine J_iload_n dX6_join_7 rfl ?_
    refine Jw_callV1 (q9 := (RX6, TX6, 7)) moX6_rowOf jw_ml_X6_55 jw_im_X6_rowOf jw_se_X6_rowOf ha0 rfl rfl dX6_join_8 (w_X6_rowOf_in (d - 1) _ a0 x2 hO_a0 hF_md hF_k ha_f (by omega) (by omega) (by omega) hfb) (by omega) (Nat.zero_le _) (Nat.zero_le _) (Nat.le_of_ble_eq_true rfl) (fun r8 V8 h8 => ?_)
    obtain ⟨rfl, hE8⟩ := h8
    have hE8 := hE8.symm
    subst hE8
    · refine J_astore dX6_join_11 rfl (by decide) ?_
      refine J_aload_n dX6_join_13 rfl ?_
      refine J_ifnull dX6_join_14 ?_
      refine J_aload dX6_join_17 rfl ?_
      refine J_ifnonnull (tgt := 25) dX6_join_19 (by decide) ?_
      refine J_aload_n dX6_join_25 rfl ?_
      refine J_get jf_X6_59 dX6_join_26 hO_ro hF_g ?_
      refine J_aload dX6_join_29 rfl ?_
      refine J_get jf_X6_59 dX6_join_31 hO_rb hF_gB ?_
      refine Jz_icmp_eq (tgt := 40) jEq.rf jEq.rf dX6_join_34 (by decide) (fun c34 => ?_) (fun c34 => ?_)
      · refine J_aload_n dX6_join_40 rfl ?_
        refine J_get jf_X6_22 dX6_join_41 hO_a0 hF_tr ?_
        refine J_aload_n dX6_join_44 rfl ?_
        have hdc := jdir_cases g.toInt
        refine Jw_callV1 (q9 := (RX3, TX3, 7)) moX3_become jw_ml_X6_89 jw_im_X3_become jw_se_X3_become hb_tr rfl rfl dX6_join_45 (w_X3_become_z (d - 1) _ tr ro MT g n sT xxT yyT zzT s xx yy zz ST XT YT ZT S X Y Z (by omega) hW  hb_tr hb_ro ⟨_, hO_tr, hF_MT⟩ ⟨_, hO_ro, hF_g⟩ ⟨_, hO_ro, hF_n⟩ ⟨_, hO_tr, hF_sT⟩ ⟨_, hO_tr, hF_xxT⟩ ⟨_, hO_tr, hF_yyT⟩ ⟨_, hO_tr, hF_zzT⟩ ⟨_, hO_ro, hF_s⟩ ⟨_, hO_ro, hF_xx⟩ ⟨_, hO_ro, hF_yy⟩ ⟨_, hO_ro, hF_zz⟩ (fun e => hAB ro List.mem_cons_self (e ▸ List.mem_cons_self)) (fun e => hAB s (List.mem_cons_of_mem _ List.mem_cons_self) (e ▸ (List.mem_cons_of_mem _ List.mem_cons_self))) (fun e => hAB xx (List.mem_cons_of_mem _ (List.mem_cons_of_mem _ List.mem_cons_self)) (e ▸ (List.mem_cons_of_mem _ (List.mem_cons_of_mem _ List.mem_cons_self)))) (fun e => hAB yy (List.mem_cons_of_mem _ (List.mem_cons_of_mem _ (List.mem_cons_of_mem _ List.mem_cons_self))) (e ▸ (List.mem_cons_of_mem _ (List.mem_cons_of_mem _ (List.mem_cons_of_mem _ List.mem_cons_self))))) (fun e => hAB zz (List.mem_cons_of_mem _ (List.mem_cons_of_mem _ (List.mem_cons_of_mem _ (List.mem_cons_of_mem _ List.mem_cons_self)))) (e ▸ (List.mem_cons_of_mem _ (List.mem_cons_of_mem _ (List.mem_cons_of_mem _ (List.mem_cons_of_mem _ List.mem_cons_self)))))) ha_ST ha_XT ha_YT ha_ZT ha_S ha_X ha_Y ha_Z (by omega) (by omega) (by omega) (by omega) (by omega)) (by omega) (Nat.zero_le _) (Nat.zero_le _) (Nat.le_of_ble_eq_true rfl) (fun r45 V45 h45 => ?_)
        obtain ⟨h45, hX45_0, hX45_1, hX45_2, hX45_3, hX45_4, ⟨fv45_0, hfv45_0, hfp45_0⟩, ⟨fv45_1, hfv45_1, hfp45_1⟩, ⟨fv45_2, hfv45_2, hfp45_2⟩⟩ := h45
        obtain ⟨hW, hx45, hr45⟩ := h45
        have he := he.trans (hx45.sub (jsub_of rfl))
        have hfp := hfp.trans (hX45_4.sub (fun b hb => by simp only [List.mem_cons, List.not_mem_nil, or_false] at hb ⊢; omega))
        have ha0 := ha0.mono hx45.1
        have hb_md := hb_md.mono hx45.1
        have hb_tr := hb_tr.mono hx45.1
        have hb_ro := hb_ro.mono hx45.1
        have hb_s := hb_s.mono hx45.1
        have hb_xx := hb_xx.mono hx45.1
        have hb_yy := hb_yy.mono hx45.1
        have hb_zz := hb_zz.mono hx45.1
        have hb_rb := hb_rb.mono hx45.1
        have hb_sB := hb_sB.mono hx45.1
        have hb_xxB := hb_xxB.mono hx45.1
        have hb_yyB := hb_yyB.mono hx45.1
        have hb_zzB := hb_zzB.mono hx45.1
        have hb_sT := hb_sT.mono hx45.1
        have hb_xxT := hb_xxT.mono hx45.1
        have hb_yyT := hb_yyT.mono hx45.1
        have hb_zzT := hb_zzT.mono hx45.1
        have hO_a0 := hx45.2 _ _ hO_a0 (jnot_of rfl)
        have hK_a0 := hK_a0.mono hx45.1
        have hO_ro := (hX45_4 ro (hAB ro List.mem_cons_self)).trans hO_ro
        have hK_ro := hK_ro.mono hx45.1
        have hO_rb := (hX45_4 rb (hCB rb List.mem_cons_self)).trans hO_rb
        have hK_rb := hK_rb.mono hx45.1
        obtain ⟨fs45tr, hOfs45tr, hRfs45tr⟩ := hx45.1.keep hO_tr
        have hKfs45tr : jokO _ (jFs 1) fs45tr := hW _ _ id hOfs45tr
        have hFfs45tr_1 := hRfs45tr _ _ hF_sT
        have hFfs45tr_2 := hRfs45tr _ _ hF_xxT
        have hFfs45tr_3 := hRfs45tr _ _ hF_yyT
        have hFfs45tr_4 := hRfs45tr _ _ hF_zzT
        have ha_S := (hX45_4 s (hAB s (List.mem_cons_of_mem _ List.mem_cons_self))).trans ha_S
        have ha_X := (hX45_4 xx (hAB xx (List.mem_cons_of_mem _ (List.mem_cons_of_mem _ List.mem_cons_self)))).trans ha_X
        have ha_Y := (hX45_4 yy (hAB yy (List.mem_cons_of_mem _ (List.mem_cons_of_mem _ (List.mem_cons_of_mem _ List.mem_cons_self))))).trans ha_Y
        have ha_Z := (hX45_4 zz (hAB zz (List.mem_cons_of_mem _ (List.mem_cons_of_mem _ (List.mem_cons_of_mem _ (List.mem_cons_of_mem _ List.mem_cons_self)))))).trans ha_Z
        have ha_SB := (hX45_4 sB (hCB sB (List.mem_cons_of_mem _ List.mem_cons_self))).trans ha_SB
        have ha_XB := (hX45_4 xxB (hCB xxB (List.mem_cons_of_mem _ (List.mem_cons_of_mem _ List.mem_cons_self)))).trans ha_XB
        have ha_YB := (hX45_4 yyB (hCB yyB (List.mem_cons_of_mem _ (List.mem_cons_of_mem _ (List.mem_cons_of_mem _ List.mem_cons_self))))).trans ha_YB
        have ha_ZB := (hX45_4 zzB (hCB zzB (List.mem_cons_of_mem _ (List.mem_cons_of_mem _ (List.mem_cons_of_mem _ (List.mem_cons_of_mem _ List.mem_cons_self)))))).trans ha_ZB
        cases hr45
        have hFv45_0 := hfv45_0.get hOfs45tr
        have hsb45_0 : MT = fv45_0 := (jI_inj.mp hfp45_0).symm
        subst hsb45_0
        have hFv45_1 := hfv45_1.get hOfs45tr
        have hsb45_1 : g = fv45_1 := (jI_inj.mp hfp45_1).symm
        subst hsb45_1
        have hFv45_2 := hfv45_2.get hOfs45tr
        have hsb45_2 : n = fv45_2 := (jI_inj.mp hfp45_2).symm
        subst hsb45_2
        obtain ⟨S45, hS45, hSe45⟩ := hX45_0
        obtain ⟨X45, hXa45, hXe45⟩ := hX45_1
        obtain ⟨Y45, hYa45, hYe45⟩ := hX45_2
        obtain ⟨Z45, hZa45, hZe45⟩ := hX45_3
        obtain ⟨hN_S45, hv_S45⟩ := WT_rngI (r := ((-2147483648), 2147483647)) hW id rfl hS45
        clear hN_S45
        obtain ⟨hN_X45, hv_X45⟩ := WT_rngI (r := ((-2147483648), 2147483647)) hW id rfl hXa45
        clear hN_X45
        obtain ⟨hN_Y45, hv_Y45⟩ := WT_rngI (r := ((-2147483648), 2147483647)) hW id rfl hYa45
        clear hN_Y45
        obtain ⟨hN_Z45, hv_Z45⟩ := WT_rngI (r := ((-2147483648), 2147483647)) hW id rfl hZa45
        clear hN_Z45
        refine Jz_iconst 0 dX6_join_48 (by decide) (fun y48 he48 => ?_)
        refine J_istore dX6_join_49 rfl (by decide) ?_
        have L51 : ∀ (N : Nat) (V : jH) (i5n51 : Int32) (gs51tr : List Value) (g6n51 : Int32) (F6n51 : Nat → Int32) (F34n51 : Nat → Int32) (F35n51 : Nat → Int32) (F36n51 : Nat → Int32), WT V → jeff [.inr 1, .inl 6, .inl 34, .inl 35, .inl 36] V0 V → (jis V (.inr 4) a0) → (jis V (.inl 4) md) → (jis V (.inr 1) tr) → (jis V (.inr 1) ro) → (jis V (.inl 6) s) → (jis V (.inl 34) xx) → (jis V (.inl 35) yy) → (jis V (.inl 36) zz) → (jis V (.inr 1) rb) → (jis V (.inl 6) sB) → (jis V (.inl 34) xxB) → (jis V (.inl 35) yyB) → (jis V (.inl 36) zzB) → (jis V (.inl 6) sT) → (jis V (.inl 34) xxT) → (jis V (.inl 35) yyT) → (jis V (.inl 36) zzT) → (jfp [tr, sT, xxT, yyT, zzT] V0 V) → (V a0 = some (.inr (4, fs_a0))) → (jokO V (jFs 4) fs_a0) → (V ro = some (.inr (1, fs_ro))) → (jokO V (jFs 1) fs_ro) → (V rb = some (.inr (1, fs_rb))) → (jokO V (jFs 1) fs_rb) → (V tr = some (.inr (1, gs51tr))) → (gs51tr[1]? = some (.ref sT)) → (gs51tr[2]? = some (.ref xxT)) → (gs51tr[3]? = some (.ref yyT)) → (gs51tr[4]? = some (.ref zzT)) → (gs51tr[0]? = some (.int MT)) → (gs51tr[5]? = some (.int g)) → (gs51tr[6]? = some (.int g6n51)) → (V sT = some (.inl (6, 120, .inl F6n51))) → (V xxT = some (.inl (34, 121, .inl F34n51))) → (V yyT = some (.inl (35, 121, .inl F35n51))) → (V zzT = some (.inl (36, 121, .inl F36n51))) → (V s = some (.inl (6, 60, .inl S))) → (V xx = some (.inl (34, 61, .inl X))) → (V yy = some (.inl (35, 61, .inl Y))) → (V zz = some (.inl (36, 61, .inl Z))) → (V sB = some (.inl (6, 60, .inl SB))) → (V xxB = some (.inl (34, 61, .inl XB))) → (V yyB = some (.inl (35, 61, .inl YB))) → (V zzB = some (.inl (36, 61, .inl ZB))) → (0 ≤ i5n51.toInt ∧ i5n51.toInt ≤ nB.toInt) → (g6n51.toInt = n.toInt + i5n51.toInt) → (∀ j : Nat, (j : Int) < g6n51.toInt → (F6n51 j).toInt = (jTj (fun q => (S q).toInt) n.toInt.toNat (fun q => (SB q).toInt)) j) → (jrv g.toInt (jTj (fun q => (S q).toInt) n.toInt.toNat (fun q => (SB q).toInt)) g6n51.toInt.toNat F34n51 F35n51 F36n51) → (jav g.toInt (jTj (fun q => (S q).toInt) n.toInt.toNat (fun q => (SB q).toInt)) g6n51.toInt.toNat) → (300 - i5n51.toInt).toNat < N → J tS mX6_join d 51 [some (.ref a0), some (.int x1), some (.int x2), some (.ref ro), some (.ref rb), some (.int i5n51)] [] V 0 0 (fun r V => (jPost [.inr 1, .inl 6, .inl 34, .inl 35, .inl 36] V0 (fun r _ => ∃ y : Int32, r = some (.int y) ∧ ((-2147483648) ≤ y.toInt) ∧ (y.toInt ≤ 2147483647) ∧ (y.toInt = -4))) r V ∧ (∃ (g2 n2 : Int) (S2 X2 Y2 Z2 : Nat → Int32), jrw V tr sT xxT yyT zzT 120 g2 n2 S2 X2 Y2 Z2 ∧ (X2 0).toInt = 0 ∧ (Y2 0).toInt = 0 ∧ (Z2 0).toInt = 0) ∧ jfp [tr, sT, xxT, yyT, zzT] V0 V) := by
          intro N
          induction N with
          | zero => intro V i5n51 gs51tr g6n51 F6n51 F34n51 F35n51 F36n51 hW he ha0 hb_md hb_tr hb_ro hb_s hb_xx hb_yy hb_zz hb_rb hb_sB hb_xxB hb_yyB hb_zzB hb_sT hb_xxT hb_yyT hb_zzT hfp hO_a0 hK_a0 hO_ro hK_ro hO_rb hK_rb hOgs51tr hFgs51tr_1 hFgs51tr_2 hFgs51tr_3 hFgs51tr_4 hFgs51tr_0 hFgs51tr_5 hFgs51tr_6 hAF6n51 hAF34n51 hAF35n51 hAF36n51 ha_S ha_X ha_Y ha_Z ha_SB ha_XB ha_YB ha_ZB hi htn hts hjv hav hm; exact absurd hm (Nat.not_lt_zero _)
          | succ N ih =>
            intro V i5n51 gs51tr g6n51 F6n51 F34n51 F35n51 F36n51 hW he ha0 hb_md hb_tr hb_ro hb_s hb_xx hb_yy hb_zz hb_rb hb_sB hb_xxB hb_yyB hb_zzB hb_sT hb_xxT hb_yyT hb_zzT hfp hO_a0 hK_a0 hO_ro hK_ro hO_rb hK_rb hOgs51tr hFgs51tr_1 hFgs51tr_2 hFgs51tr_3 hFgs51tr_4 hFgs51tr_0 hFgs51tr_5 hFgs51tr_6 hAF6n51 hAF34n51 hAF35n51 hAF36n51 ha_S ha_X ha_Y ha_Z ha_SB ha_XB ha_YB ha_ZB hi htn hts hjv hav hm
            have ih51 := ih
            have hri5 := j_rng i5n51
            have hKgs51tr : jokO V (jFs 1) gs51tr := hW _ _ id hOgs51tr
            have hrgg6n51 : 0 ≤ g6n51.toInt ∧ g6n51.toInt ≤ 120 := jok_rngI hKgs51tr rfl hFgs51tr_6
            obtain ⟨hNF6n51, hvF6n51⟩ := WT_rngI (r := ((-2147483648), 2147483647)) hW id rfl hAF6n51
            clear hNF6n51
            obtain ⟨hNF34n51, hvF34n51⟩ := WT_rngI (r := ((-2147483648), 2147483647)) hW id rfl hAF34n51
            clear hNF34n51
            obtain ⟨hNF35n51, hvF35n51⟩ := WT_rngI (r := ((-2147483648), 2147483647)) hW id rfl hAF35n51
            clear hNF35n51
            obtain ⟨hNF36n51, hvF36n51⟩ := WT_rngI (r := ((-2147483648), 2147483647)) hW id rfl hAF36n51
            clear hNF36n51
            refine J_iload dX6_join_51 rfl ?_
            refine J_aload dX6_join_53 rfl ?_
            refine J_get jf_X6_69 dX6_join_55 hO_rb hF_nB ?_
            refine Jz_icmp_ge (tgt := 87) jEq.rf jEq.rf dX6_join_58 (by decide) (fun c58 => ?_) (fun c58 => ?_)
            · refine J_aload_n dX6_join_87 rfl ?_
              refine J_get jf_X6_22 dX6_join_88 hO_a0 hF_tr ?_
              refine J_get jf_X6_69 dX6_join_91 hOgs51tr hFgs51tr_6 ?_
              refine Jz_bipush 60 dX6_join_94 (by decide) (fun y94 he94 => ?_)
              refine Jz_icmp_le (tgt := 102) jEq.rf he94 dX6_join_96 (by decide) (fun c96 => ?_) (fun c96 => ?_)
              · exact False.elim (by omega)
              · refine Jz_bipush (-4) dX6_join_99 (by decide) (fun y99 he99 => ?_)
                exact J_ret (r := some (.int _)) dX6_join_101 ⟨rfl, _, rfl, rfl⟩ (⟨⟨hW, he, ⟨_, rfl, (j_rng _).1, (j_rng _).2, (by (try simp only [he99.eq, true_and, and_true]) <;> omega)⟩⟩, ⟨_, _, _, _, _, _, ⟨⟨_, ⟨_, hOgs51tr, hFgs51tr_0⟩, hm_tr⟩, ⟨_, ⟨_, hOgs51tr, hFgs51tr_5⟩, rfl⟩, ⟨_, ⟨_, hOgs51tr, hFgs51tr_6⟩, rfl⟩, ⟨_, hOgs51tr, hFgs51tr_1⟩, ⟨_, hOgs51tr, hFgs51tr_2⟩, ⟨_, hOgs51tr, hFgs51tr_3⟩, ⟨_, hOgs51tr, hFgs51tr_4⟩, hAF6n51, hAF34n51, hAF35n51, hAF36n51⟩, (hjv 0 (Nat.zero_le _))⟩, hfp⟩)
            · refine J_aload_n dX6_join_61 rfl ?_
              refine J_get jf_X6_22 dX6_join_62 hO_a0 hF_tr ?_
              refine J_aload dX6_join_65 rfl ?_
              refine J_iload dX6_join_67 rfl ?_
              refine Jw_callV1 (q9 := (RX3, TX3, 7)) moX3_direction jw_ml_X6_81 jw_im_X3_direction jw_se_X3_direction hb_rb rfl rfl dX6_join_69 (w_X3_direction_z (d - 1) _ rb i5n51 sB SB (by omega) hW  hb_rb ⟨_, hO_rb, hF_sB⟩ ha_SB (by omega) (by omega) (by omega)) (by omega) (Nat.zero_le _) (Nat.zero_le _) (Nat.le_of_ble_eq_true rfl) (fun r69 V69 h69 => ?_)
              obtain ⟨⟨y69, rfl, hl69, hh69, hP69_0⟩, hE69⟩ := h69
              have hE69 := hE69.symm
              subst hE69
              clear hl69 hh69
              have hz69 : jEq y69.toInt ((SB (i5n51.toInt).toNat).toInt) := hP69_0
              clear hP69_0
              have hsd := hp7 i5n51.toInt.toNat (by omega)
              rw [← hp6] at hsd
              have htp : (jTj (fun q => (S q).toInt) n.toInt.toNat (fun q => (SB q).toInt)) g6n51.toInt.toNat = y69.toInt := (by unfold jTj; rw [if_neg (by omega)]; (show (SB _).toInt = _); rw [show g6n51.toInt.toNat - n.toInt.toNat = i5n51.toInt.toNat by omega]; exact (hz69.eq).symm)
              have hbx := hjv.b g6n51.toInt.toNat (Nat.le_refl _)
              have hcc : jav g.toInt (jTj (fun q => (S q).toInt) n.toInt.toNat (fun q => (SB q).toInt)) (g6n51.toInt.toNat + 1) := hp13.mono (by omega)
              refine Jw_callV1 (q9 := (RX3, TX3, 7)) moX3_lay jw_ml_X6_72 jw_im_X3_lay jw_se_X3_lay hb_tr rfl rfl dX6_join_72 (w_X3_lay_yes (d - 1) _ tr y69 MT g g6n51 sT xxT yyT zzT F6n51 F34n51 F35n51 F36n51 (by omega) hW  hb_tr ⟨_, hOgs51tr, hFgs51tr_0⟩ ⟨_, hOgs51tr, hFgs51tr_5⟩ ⟨_, hOgs51tr, hFgs51tr_6⟩ ⟨_, hOgs51tr, hFgs51tr_1⟩ ⟨_, hOgs51tr, hFgs51tr_2⟩ ⟨_, hOgs51tr, hFgs51tr_3⟩ ⟨_, hOgs51tr, hFgs51tr_4⟩ hAF6n51 hAF34n51 hAF35n51 hAF36n51 (by omega) (by omega) (by omega) (by omega) (by omega) (by first | omega | (simp only [hz69.eq]; omega)) (by first | omega | (simp only [hz69.eq]; omega)) (by omega) (by omega) (by omega) (by omega) (by omega) (by omega) (by omega) (fun j hj q => (jav_succ.mp hcc).2 j (by omega) ((hjv.next (by omega)).mpr (by rw [htp]; exact q)))) (by omega) (Nat.zero_le _) (Nat.zero_le _) (Nat.le_of_ble_eq_true rfl) (fun r72 V72 h72 => ?_)
              obtain ⟨h72, hX72_0, hX72_1, hX72_2, hX72_3, hX72_4, ⟨fv72_0, hfv72_0, hfp72_0⟩, ⟨fv72_1, hfv72_1, hfp72_1⟩, ⟨fv72_2, hfv72_2, hfp72_2⟩⟩ := h72
              obtain ⟨hW, hx72, hr72⟩ := h72
              have he := he.trans (hx72.sub (jsub_of rfl))
              have hfp := hfp.trans (hX72_4.sub (fun b hb => by simp only [List.mem_cons, List.not_mem_nil, or_false] at hb ⊢; omega))
              have ha0 := ha0.mono hx72.1
              have hb_md := hb_md.mono hx72.1
              have hb_tr := hb_tr.mono hx72.1
              have hb_ro := hb_ro.mono hx72.1
              have hb_s := hb_s.mono hx72.1
              have hb_xx := hb_xx.mono hx72.1
              have hb_yy := hb_yy.mono hx72.1
              have hb_zz := hb_zz.mono hx72.1
              have hb_rb := hb_rb.mono hx72.1
              have hb_sB := hb_sB.mono hx72.1
              have hb_xxB := hb_xxB.mono hx72.1
              have hb_yyB := hb_yyB.mono hx72.1
              have hb_zzB := hb_zzB.mono hx72.1
              have hb_sT := hb_sT.mono hx72.1
              have hb_xxT := hb_xxT.mono hx72.1
              have hb_yyT := hb_yyT.mono hx72.1
              have hb_zzT := hb_zzT.mono hx72.1
              have hO_a0 := hx72.2 _ _ hO_a0 (jnot_of rfl)
              have hK_a0 := hK_a0.mono hx72.1
              have hO_ro := (hX72_4 ro (hAB ro List.mem_cons_self)).trans hO_ro
              have hK_ro := hK_ro.mono hx72.1
              have hO_rb := (hX72_4 rb (hCB rb List.mem_cons_self)).trans hO_rb
              have hK_rb := hK_rb.mono hx72.1
              obtain ⟨fs72tr, hOfs72tr, hRfs72tr⟩ := hx72.1.keep hOgs51tr
              have hKfs72tr : jokO _ (jFs 1) fs72tr := hW _ _ id hOfs72tr
              have hFfs72tr_1 := hRfs72tr _ _ hFgs51tr_1
              have hFfs72tr_2 := hRfs72tr _ _ hFgs51tr_2
              have hFfs72tr_3 := hRfs72tr _ _ hFgs51tr_3
              have hFfs72tr_4 := hRfs72tr _ _ hFgs51tr_4
              have ha_S := (hX72_4 s (hAB s (List.mem_cons_of_mem _ List.mem_cons_self))).trans ha_S
              have ha_X := (hX72_4 xx (hAB xx (List.mem_cons_of_mem _ (List.mem_cons_of_mem _ List.mem_cons_self)))).trans ha_X
              have ha_Y := (hX72_4 yy (hAB yy (List.mem_cons_of_mem _ (List.mem_cons_of_mem _ (List.mem_cons_of_mem _ List.mem_cons_self))))).trans ha_Y
              have ha_Z := (hX72_4 zz (hAB zz (List.mem_cons_of_mem _ (List.mem_cons_of_mem _ (List.mem_cons_of_mem _ (List.mem_cons_of_mem _ List.mem_cons_self)))))).trans ha_Z
              have ha_SB := (hX72_4 sB (hCB sB (List.mem_cons_of_mem _ List.mem_cons_self))).trans ha_SB
              have ha_XB := (hX72_4 xxB (hCB xxB (List.mem_cons_of_mem _ (List.mem_cons_of_mem _ List.mem_cons_self)))).trans ha_XB
              have ha_YB := (hX72_4 yyB (hCB yyB (List.mem_cons_of_mem _ (List.mem_cons_of_mem _ (List.mem_cons_of_mem _ List.mem_cons_self))))).trans ha_YB
              have ha_ZB := (hX72_4 zzB (hCB zzB (List.mem_cons_of_mem _ (List.mem_cons_of_mem _ (List.mem_cons_of_mem _ (List.mem_cons_of_mem _ List.mem_cons_self)))))).trans ha_ZB
              obtain ⟨y72, rfl, hl72, hh72, hP72_0⟩ := hr72
              try simp only [hz69.eq] at hP72_0
              have hFv72_0 := hfv72_0.get hOfs72tr
              try simp only [hz69.eq] at hfp72_0
              have hzf72_0 : jEq fv72_0.toInt ((g6n51.toInt) + 1) := hfp72_0
              clear hfp72_0
              have hFv72_1 := hfv72_1.get hOfs72tr
              try simp only [hz69.eq] at hfp72_1
              have hsb72_1 : MT = fv72_1 := (jI_inj.mp hfp72_1).symm
              subst hsb72_1
              have hFv72_2 := hfv72_2.get hOfs72tr
              try simp only [hz69.eq] at hfp72_2
              have hsb72_2 : g = fv72_2 := (jI_inj.mp hfp72_2).symm
              subst hsb72_2
              obtain ⟨S72, hS72, hSn72, hSo72⟩ := hX72_0
              obtain ⟨X72, hXa72, hXn72, hXo72⟩ := hX72_1
              obtain ⟨Y72, hYa72, hYn72, hYo72⟩ := hX72_2
              obtain ⟨Z72, hZa72, hZn72, hZo72⟩ := hX72_3
              obtain ⟨hN_S72, hv_S72⟩ := WT_rngI (r := ((-2147483648), 2147483647)) hW id rfl hS72
              clear hN_S72
              obtain ⟨hN_X72, hv_X72⟩ := WT_rngI (r := ((-2147483648), 2147483647)) hW id rfl hXa72
              clear hN_X72
              obtain ⟨hN_Y72, hv_Y72⟩ := WT_rngI (r := ((-2147483648), 2147483647)) hW id rfl hYa72
              clear hN_Y72
              obtain ⟨hN_Z72, hv_Z72⟩ := WT_rngI (r := ((-2147483648), 2147483647)) hW id rfl hZa72
              clear hN_Z72
              refine Jz_if_ne (tgt := 81) jEq.rf dX6_join_75 (by decide) (fun c75 => ?_) (fun c75 => ?_)
              · refine Jz_iinc 1 dX6_join_81 rfl rfl (by decide) jEq.rf (by decide) (by omega) (by omega) (fun y81 he81 => ?_)
                refine J_goto (tgt := 51) dX6_join_84 (by decide) ?_
                refine J.mask [true, true, true, true, true, true] ?_
                exact ih51 _ y81 fs72tr fv72_0 S72 X72 Y72 Z72 hW he ha0 hb_md hb_tr hb_ro hb_s hb_xx hb_yy hb_zz hb_rb hb_sB hb_xxB hb_yyB hb_zzB hb_sT hb_xxT hb_yyT hb_zzT hfp hO_a0 hK_a0 hO_ro hK_ro hO_rb hK_rb hOfs72tr hFfs72tr_1 hFfs72tr_2 hFfs72tr_3 hFfs72tr_4 hFv72_1 hFv72_2 hFv72_0 hS72 hXa72 hYa72 hZa72 ha_S ha_X ha_Y ha_Z ha_SB ha_XB ha_YB ha_ZB (by (try simp only [he81.eq, hzf72_0.eq, true_and, and_true]) <;> omega) (by (try simp only [he81.eq, hzf72_0.eq, true_and, and_true]) <;> omega) (fun j hj => by rw [hzf72_0.eq] at hj; by_cases c : (j : Int) = g6n51.toInt; (have e : j = g6n51.toInt.toNat := by omega); subst e; rw [hSn72, htp]; rw [hSo72 j (by omega)]; exact hts j (by omega)) (by rw [hzf72_0.eq, show (g6n51.toInt + 1).toNat = g6n51.toInt.toNat + 1 by omega]; exact hjv.lay (by rw [hXn72, htp]) (by rw [hYn72, htp]) (by rw [hZn72, htp]) hXo72 hYo72 hZo72) (by rw [hzf72_0.eq, show (g6n51.toInt + 1).toNat = g6n51.toInt.toNat + 1 by omega]; exact hcc) (by (try simp only [he81.eq, hzf72_0.eq, true_and, and_true]) <;> omega)
              · exact False.elim (by omega)
        refine J.mask [true, true, true, true, true, true] ?_
        exact L51 _ _ y48 fs45tr n S45 X45 Y45 Z45 hW he ha0 hb_md hb_tr hb_ro hb_s hb_xx hb_yy hb_zz hb_rb hb_sB hb_xxB hb_yyB hb_zzB hb_sT hb_xxT hb_yyT hb_zzT hfp hO_a0 hK_a0 hO_ro hK_ro hO_rb hK_rb hOfs45tr hFfs45tr_1 hFfs45tr_2 hFfs45tr_3 hFfs45tr_4 hFv45_0 hFv45_1 hFv45_2 hS45 hXa45 hYa45 hZa45 ha_S ha_X ha_Y ha_Z ha_SB ha_XB ha_YB ha_ZB (by (try simp only [he48.eq, true_and, and_true]) <;> omega) (by (try simp only [he48.eq, true_and, and_true]) <;> omega) (fun j hj => by rw [hSe45 j hj]; unfold jTj; rw [if_pos (by omega)]) (by intro i hi; rw [hXe45 i (by omega), hYe45 i (by omega), hZe45 i (by omega)]; exact (hp11.congr (fun q hq => by unfold jTj; rw [if_pos hq])) i hi) (hp12.congr (fun q hq => by unfold jTj; rw [if_pos hq])) (Nat.lt_succ_self _)
      · exact False.elim (by omega)
set_option maxRecDepth 100000 in
set_option maxHeartbeats 8000000 in
theorem w_X6_join_ok {tS : jTS} (d : Nat) (V0 : jH) (a0 : Nat) (x1 : Int32) (x2 : Int32) (k : Int32) (md : Nat) (tr : Nat) (f : Nat → Option Nat) (ro : Nat) (M : Int32) (g : Int32) (n : Int32) (s : Nat) (xx : Nat) (yy : Nat) (zz : Nat) (S : Nat → Int32) (X : Nat → Int32) (Y : Nat → Int32) (Z : Nat → Int32) (rb : Nat) (MB : Int32) (gB : Int32) (nB : Int32) (sB : Nat) (xxB : Nat) (yyB : Nat) (zzB : Nat) (SB : Nat → Int32) (XB : Nat → Int32) (YB : Nat → Int32) (ZB : Nat → Int32) (MT : Int32) (gT : Int32) (nT : Int32) (sT : Nat) (xxT : Nat) (yyT : Nat) (zzT : Nat) (ST : Nat → Int32) (XT : Nat → Int32) (YT : Nat → Int32) (ZT : Nat → Int32) (hd : 4 ≤ d) (hW : WT V0) (ha0 : jis V0 (.inr 4) a0) (hf_k : jfI V0 a0 4 1 k) (hr_md : jfR V0 a0 4 0 md) (hr_tr : jfR V0 a0 4 2 tr) (ha_f : V0 md = some (.inl (4, 16, .inr (.inr (.inr (.inr f)))))) (hf_M : jfI V0 ro 1 0 M) (hf_g : jfI V0 ro 1 5 g) (hf_n : jfI V0 ro 1 6 n) (hr_s : jfR V0 ro 1 1 s) (hr_xx : jfR V0 ro 1 2 xx) (hr_yy : jfR V0 ro 1 3 yy) (hr_zz : jfR V0 ro 1 4 zz) (ha_S : V0 s = some (.inl (6, 60, .inl S))) (ha_X : V0 xx = some (.inl (34, 61, .inl X))) (ha_Y : V0 yy = some (.inl (35, 61, .inl Y))) (ha_Z : V0 zz = some (.inl (36, 61, .inl Z))) (hm_ro : M.toInt = 60) (hn_ro : n.toInt ≤ 60) (hfo : f x1.toInt.toNat = some ro) (hf_MB : jfI V0 rb 1 0 MB) (hf_gB : jfI V0 rb 1 5 gB) (hf_nB : jfI V0 rb 1 6 nB) (hr_sB : jfR V0 rb 1 1 sB) (hr_xxB : jfR V0 rb 1 2 xxB) (hr_yyB : jfR V0 rb 1 3 yyB) (hr_zzB : jfR V0 rb 1 4 zzB) (ha_SB : V0 sB = some (.inl (6, 60, .inl SB))) (ha_XB : V0 xxB = some (.inl (34, 61, .inl XB))) (ha_YB : V0 yyB = some (.inl (35, 61, .inl YB))) (ha_ZB : V0 zzB = some (.inl (36, 61, .inl ZB))) (hm_rb : MB.toInt = 60) (hn_rb : nB.toInt ≤ 60) (hfb : f x2.toInt.toNat = some rb) (hf_MT : jfI V0 tr 1 0 MT) (hf_gT : jfI V0 tr 1 5 gT) (hf_nT : jfI V0 tr 1 6 nT) (hr_sT : jfR V0 tr 1 1 sT) (hr_xxT : jfR V0 tr 1 2 xxT) (hr_yyT : jfR V0 tr 1 3 yyT) (hr_zzT : jfR V0 tr 1 4 zzT) (ha_ST : V0 sT = some (.inl (6, 120, .inl ST))) (ha_XT : V0 xxT = some (.inl (34, 121, .inl XT))) (ha_YT : V0 yyT = some (.inl (35, 121, .inl YT))) (ha_ZT : V0 zzT = some (.inl (36, 121, .inl ZT))) (hm_tr : MT.toInt = 120) (hn_tr : nT.toInt ≤ 120) (hAB : ∀ b ∈ [ro, s, xx, yy, zz], b ∉ [tr, sT, xxT, yyT, zzT]) (hBA : ∀ b ∈ [tr, sT, xxT, yyT, zzT], b ∉ [ro, s, xx, yy, zz]) (hCB : ∀ b ∈ [rb, sB, xxB, yyB, zzB], b ∉ [tr, sT, xxT, yyT, zzT]) (hp0 : 0 ≤ x1.toInt) (hp1 : x1.toInt < k.toInt) (hp2 : 0 ≤ x2.toInt) (hp3 : x2.toInt < k.toInt) (hp4 : 0 ≤ g.toInt) (hp5 : g.toInt ≤ 3) (hp6 : g.toInt = gB.toInt) (hp7 : ∀ j : Nat, (j : Int) < nB.toInt → 0 ≤ (SB j).toInt ∧ (SB j).toInt < jdir gB.toInt) (hp8 : (XT 0).toInt = 0) (hp9 : (YT 0).toInt = 0) (hp10 : (ZT 0).toInt = 0) (hp11 : jrv g.toInt (fun q => (S q).toInt) n.toInt.toNat X Y Z) (hp12 : jav g.toInt (fun q => (S q).toInt) n.toInt.toNat) (hp13 : jav g.toInt (jTj (fun q => (S q).toInt) n.toInt.toNat (fun q => (SB q).toInt)) (n.toInt + nB.toInt).toNat) (hp14 : (n.toInt + nB.toInt) ≤ 60) : jTot tS mX6_join d [.ref a0, .int x1, .int x2] V0 0 0 (fun r V => (jPost [.inr 1, .inl 6, .inl 34, .inl 35, .inl 36] V0 (fun r _ => ∃ y : Int32, r = some (.int y) ∧ ((-2147483648) ≤ y.toInt) ∧ (y.toInt ≤ 2147483647) ∧ (y.toInt = (n.toInt + nB.toInt)))) r V ∧ (∃ S2 X2 Y2 Z2 : Nat → Int32, jrw V ro s xx yy zz 60 g.toInt (n.toInt + nB.toInt) S2 X2 Y2 Z2 ∧ (∀ j : Nat, (j : Int) < n.toInt + nB.toInt → (S2 j).toInt = (jTj (fun q => (S q).toInt) n.toInt.toNat (fun q => (SB q).toInt)) j) ∧ jrv g.toInt (jTj (fun q => (S q).toInt) n.toInt.toNat (fun q => (SB q).toInt)) (n.toInt + nB.toInt).toNat X2 Y2 Z2) ∧ (∃ (g2 n2 : Int) (S2 X2 Y2 Z2 : Nat → Int32), jrw V tr sT xxT yyT zzT 120 g2 n2 S2 X2 Y2 Z2 ∧ (X2 0).toInt = 0 ∧ (Y2 0).toInt = 0 ∧ (Z2 0).toInt = 0) ∧ jfp [ro, s, xx, yy, zz, tr, sT, xxT, yyT, zzT] V0 V) := by
  refine jTot.of_J [some (.ref a0), some (.int x1), some (.int x2), none, none, none] moX6_join (Nat.le_of_ble_eq_true rfl) rfl ?_
  have hrx1 := j_rng x1
  have hrx2 := j_rng x2
  have he : jeff [.inr 1, .inl 6, .inl 34, .inl 35, .inl 36] V0 V0 := jeff.refl _ _
  have hfp : jfp [ro, s, xx, yy, zz, tr, sT, xxT, yyT, zzT] V0 V0 := jfp.rf
  obtain ⟨fs_a0, hO_a0, hK_a0⟩ := WT_obj hW id ha0
  have hF_k := hf_k.get hO_a0
  have hrk : 0 ≤ k.toInt ∧ k.toInt ≤ 16 := jok_rngI hK_a0 rfl hF_k
  have hF_md := hr_md.get hO_a0
  obtain ⟨w_md, hFq_md, b_md, hbq_md, hb_md⟩ := hK_a0.2 0 (.inr (some (.inl 4))) rfl
  cases hF_md.symm.trans (hFq_md.trans (congrArg some hbq_md))
  have hF_tr := hr_tr.get hO_a0
  obtain ⟨w_tr, hFq_tr, b_tr, hbq_tr, hb_tr⟩ := hK_a0.2 2 (.inr (some (.inr 1))) rfl
  cases hF_tr.symm.trans (hFq_tr.trans (congrArg some hbq_tr))
  have hb_ro : jis V0 (.inr 1) ro := by obtain ⟨q1, q2, q3⟩ := hf_M; exact ⟨_, q2, rfl⟩
  obtain ⟨fs_ro, hO_ro, hK_ro⟩ := WT_obj hW id hb_ro
  have hF_M := hf_M.get hO_ro
  have hrM : 0 ≤ M.toInt ∧ M.toInt ≤ 120 := jok_rngI hK_ro rfl hF_M
  have hF_g := hf_g.get hO_ro
  have hrg : (-2147483648) ≤ g.toInt ∧ g.toInt ≤ 2147483647 := jok_rngI hK_ro rfl hF_g
  have hF_n := hf_n.get hO_ro
  have hrn : 0 ≤ n.toInt ∧ n.toInt ≤ 120 := jok_rngI hK_ro rfl hF_n
  have hF_s := hr_s.get hO_ro
  have hb_s : jis V0 (.inl 6) s := ⟨_, ha_S, rfl⟩
  obtain ⟨hN_S, hv_S⟩ := WT_rngI (r := (-2147483648, 2147483647)) hW id rfl ha_S
  clear hN_S
  have hF_xx := hr_xx.get hO_ro
  have hb_xx : jis V0 (.inl 34) xx := ⟨_, ha_X, rfl⟩
  obtain ⟨hN_X, hv_X⟩ := WT_rngI (r := (-2147483648, 2147483647)) hW id rfl ha_X
  clear hN_X
  have hF_yy := hr_yy.get hO_ro
  have hb_yy : jis V0 (.inl 35) yy := ⟨_, ha_Y, rfl⟩
  obtain ⟨hN_Y, hv_Y⟩ := WT_rngI (r := (-2147483648, 2147483647)) hW id rfl ha_Y
  clear hN_Y
  have hF_zz := hr_zz.get hO_ro
  have hb_zz : jis V0 (.inl 36) zz := ⟨_, ha_Z, rfl⟩
  obtain ⟨hN_Z, hv_Z⟩ := WT_rngI (r := (-2147483648, 2147483647)) hW id rfl ha_Z
  clear hN_Z
  have hb_rb : jis V0 (.inr 1) rb := by obtain ⟨q1, q2, q3⟩ := hf_MB; exact ⟨_, q2, rfl⟩
  obtain ⟨fs_rb, hO_rb, hK_rb⟩ := WT_obj hW id hb_rb
  have hF_MB := hf_MB.get hO_rb
  have hrMB : 0 ≤ MB.toInt ∧ MB.toInt ≤ 120 := jok_rngI hK_rb rfl hF_MB
  have hF_gB := hf_gB.get hO_rb
  have hrgB : (-2147483648) ≤ gB.toInt ∧ gB.toInt ≤ 2147483647 := jok_rngI hK_rb rfl hF_gB
  have hF_nB := hf_nB.get hO_rb
  have hrnB : 0 ≤ nB.toInt ∧ nB.toInt ≤ 120 := jok_rngI hK_rb rfl hF_nB
  have hF_sB := hr_sB.get hO_rb
  have hb_sB : jis V0 (.inl 6) sB := ⟨_, ha_SB, rfl⟩
  obtain ⟨hN_SB, hv_SB⟩ := WT_rngI (r := (-2147483648, 2147483647)) hW id rfl ha_SB
  clear hN_SB
  have hF_xxB := hr_xxB.get hO_rb
  have hb_xxB : jis V0 (.inl 34) xxB := ⟨_, ha_XB, rfl⟩
  obtain ⟨hN_XB, hv_XB⟩ := WT_rngI (r := (-2147483648, 2147483647)) hW id rfl ha_XB
  clear hN_XB
  have hF_yyB := hr_yyB.get hO_rb
  have hb_yyB : jis V0 (.inl 35) yyB := ⟨_, ha_YB, rfl⟩
  obtain ⟨hN_YB, hv_YB⟩ := WT_rngI (r := (-2147483648, 2147483647)) hW id rfl ha_YB
  clear hN_YB
  have hF_zzB := hr_zzB.get hO_rb
  have hb_zzB : jis V0 (.inl 36) zzB := ⟨_, ha_ZB, rfl⟩
  obtain ⟨hN_ZB, hv_ZB⟩ := WT_rngI (r := (-2147483648, 2147483647)) hW id rfl ha_ZB
  clear hN_ZB
  obtain ⟨fs_tr, hO_tr, hK_tr⟩ := WT_obj hW id hb_tr
  have hF_MT := hf_MT.get hO_tr
  have hrMT : 0 ≤ MT.toInt ∧ MT.toInt ≤ 120 := jok_rngI hK_tr rfl hF_MT
  have hF_gT := hf_gT.get hO_tr
  have hrgT : (-2147483648) ≤ gT.toInt ∧ gT.toInt ≤ 2147483647 := jok_rngI hK_tr rfl hF_gT
  have hF_nT := hf_nT.get hO_tr
  have hrnT : 0 ≤ nT.toInt ∧ nT.toInt ≤ 120 := jok_rngI hK_tr rfl hF_nT
  have hF_sT := hr_sT.get hO_tr
  have hb_sT : jis V0 (.inl 6) sT := ⟨_, ha_ST, rfl⟩
  obtain ⟨hN_ST, hv_ST⟩ := WT_rngI (r := (-2147483648, 2147483647)) hW id rfl ha_ST
  clear hN_ST
  have hF_xxT := hr_xxT.get hO_tr
  have hb_xxT : jis V0 (.inl 34) xxT := ⟨_, ha_XT, rfl⟩
  obtain ⟨hN_XT, hv_XT⟩ := WT_rngI (r := (-2147483648, 2147483647)) hW id rfl ha_XT
  clear hN_XT
  have hF_yyT := hr_yyT.get hO_tr
  have hb_yyT : jis V0 (.inl 35) yyT := ⟨_, ha_YT, rfl⟩
  obtain ⟨hN_YT, hv_YT⟩ := WT_rngI (r := (-2147483648, 2147483647)) hW id rfl ha_YT
  clear hN_YT
  have hF_zzT := hr_zzT.get hO_tr
  have hb_zzT : jis V0 (.inl 36) zzT := ⟨_, ha_ZT, rfl⟩
  obtain ⟨hN_ZT, hv_ZT⟩ := WT_rngI (r := (-2147483648, 2147483647)) hW id rfl ha_ZT
  clear hN_ZT
  refine J_aload_n dX6_join_0 rfl ?_
  refine J_iload_n dX6_join_1 rfl ?_
  refine Jw_callV1 (q9 := (RX6, TX6, 7)) moX6_rowOf jw_ml_X6_55 jw_im_X6_rowOf jw_se_X6_rowOf ha0 rfl rfl dX6_join_2 (w_X6_rowOf_in (d - 1) _ a0 x1 hO_a0 hF_md hF_k ha_f (by omega) (by omega) (by omega) hfo) (by omega) (Nat.zero_le _) (Nat.zero_le _) (Nat.le_of_ble_eq_true rfl) (fun r2 V2 h2 => ?_)
  obtain ⟨rfl, hE2⟩ := h2
  have hE2 := hE2.symm
  subst hE2
  · refine J_astore_n dX6_join_5 rfl (by decide) ?_
    refine J_aload_n dX6_join_6 rfl ?_
    refine J_iload_n dX6_join_7 rfl ?_
    refine Jw_callV1 (q9 := (RX6, TX6, 7)) moX6_rowOf jw_ml_X6_55 jw_im_X6_rowOf jw_se_X6_rowOf ha0 rfl rfl dX6_join_8 (w_X6_rowOf_in (d - 1) _ a0 x2 hO_a0 hF_md hF_k ha_f (by omega) (by omega) (by omega) hfb) (by omega) (Nat.zero_le _) (Nat.zero_le _) (Nat.le_of_ble_eq_true rfl) (fun r8 V8 h8 => ?_)
    obtain ⟨rfl, hE8⟩ := h8
    have hE8 := hE8.symm
    subst hE8
    · refine J_astore dX6_join_11 rfl (by decide) ?_
      refine J_aload_n dX6_join_13 rfl ?_
      refine J_ifnull dX6_join_14 ?_
      refine J_aload dX6_join_17 rfl ?_
      refine J_ifnonnull (tgt := 25) dX6_join_19 (by decide) ?_
      refine J_aload_n dX6_join_25 rfl ?_
      refine J_get jf_X6_59 dX6_join_26 hO_ro hF_g ?_
      refine J_aload dX6_join_29 rfl ?_
      refine J_get jf_X6_59 dX6_join_31 hO_rb hF_gB ?_
      refine Jz_icmp_eq (tgt := 40) jEq.rf jEq.rf dX6_join_34 (by decide) (fun c34 => ?_) (fun c34 => ?_)
      · refine J_aload_n dX6_join_40 rfl ?_
        refine J_get jf_X6_22 dX6_join_41 hO_a0 hF_tr ?_
        refine J_aload_n dX6_join_44 rfl ?_
        have hdc := jdir_cases g.toInt
        refine Jw_callV1 (q9 := (RX3, TX3, 7)) moX3_become jw_ml_X6_89 jw_im_X3_become jw_se_X3_become hb_tr rfl rfl dX6_join_45 (w_X3_become_z (d - 1) _ tr ro MT g n sT xxT yyT zzT s xx yy zz ST XT YT ZT S X Y Z (by omega) hW  hb_tr hb_ro ⟨_, hO_tr, hF_MT⟩ ⟨_, hO_ro, hF_g⟩ ⟨_, hO_ro, hF_n⟩ ⟨_, hO_tr, hF_sT⟩ ⟨_, hO_tr, hF_xxT⟩ ⟨_, hO_tr, hF_yyT⟩ ⟨_, hO_tr, hF_zzT⟩ ⟨_, hO_ro, hF_s⟩ ⟨_, hO_ro, hF_xx⟩ ⟨_, hO_ro, hF_yy⟩ ⟨_, hO_ro, hF_zz⟩ (fun e => hAB ro List.mem_cons_self (e ▸ List.mem_cons_self)) (fun e => hAB s (List.mem_cons_of_mem _ List.mem_cons_self) (e ▸ (List.mem_cons_of_mem _ List.mem_cons_self))) (fun e => hAB xx (List.mem_cons_of_mem _ (List.mem_cons_of_mem _ List.mem_cons_self)) (e ▸ (List.mem_cons_of_mem _ (List.mem_cons_of_mem _ List.mem_cons_self)))) (fun e => hAB yy (List.mem_cons_of_mem _ (List.mem_cons_of_mem _ (List.mem_cons_of_mem _ List.mem_cons_self))) (e ▸ (List.mem_cons_of_mem _ (List.mem_cons_of_mem _ (List.mem_cons_of_mem _ List.mem_cons_self))))) (fun e => hAB zz (List.mem_cons_of_mem _ (List.mem_cons_of_mem _ (List.mem_cons_of_mem _ (List.mem_cons_of_mem _ List.mem_cons_self)))) (e ▸ (List.mem_cons_of_mem _ (List.mem_cons_of_mem _ (List.mem_cons_of_mem _ (List.mem_cons_of_mem _ List.mem_cons_self)))))) ha_ST ha_XT ha_YT ha_ZT ha_S ha_X ha_Y ha_Z (by omega) (by omega) (by omega) (by omega) (by omega)) (by omega) (Nat.zero_le _) (Nat.zero_le _) (Nat.le_of_ble_eq_true rfl) (fun r45 V45 h45 => ?_)
        obtain ⟨h45, hX45_0, hX45_1, hX45_2, hX45_3, hX45_4, ⟨fv45_0, hfv45_0, hfp45_0⟩, ⟨fv45_1, hfv45_1, hfp45_1⟩, ⟨fv45_2, hfv45_2, hfp45_2⟩⟩ := h45
        obtain ⟨hW, hx45, hr45⟩ := h45
        have he := he.trans (hx45.sub (jsub_of rfl))
        have hfp := hfp.trans (hX45_4.sub (fun b hb => by simp only [List.mem_cons, List.not_mem_nil, or_false] at hb ⊢; omega))
        have ha0 := ha0.mono hx45.1
        have hb_md := hb_md.mono hx45.1
        have hb_tr := hb_tr.mono hx45.1
        have hb_ro := hb_ro.mono hx45.1
        have hb_s := hb_s.mono hx45.1
        have hb_xx := hb_xx.mono hx45.1
        have hb_yy := hb_yy.mono hx45.1
        have hb_zz := hb_zz.mono hx45.1
        have hb_rb := hb_rb.mono hx45.1
        have hb_sB := hb_sB.mono hx45.1
        have hb_xxB := hb_xxB.mono hx45.1
        have hb_yyB := hb_yyB.mono hx45.1
        have hb_zzB := hb_zzB.mono hx45.1
        have hb_sT := hb_sT.mono hx45.1
        have hb_xxT := hb_xxT.mono hx45.1
        have hb_yyT := hb_yyT.mono hx45.1
        have hb_zzT := hb_zzT.mono hx45.1
        have hO_a0 := hx45.2 _ _ hO_a0 (jnot_of rfl)
        have hK_a0 := hK_a0.mono hx45.1
        have hO_ro := (hX45_4 ro (hAB ro List.mem_cons_self)).trans hO_ro
        have hK_ro := hK_ro.mono hx45.1
        have hO_rb := (hX45_4 rb (hCB rb List.mem_cons_self)).trans hO_rb
        have hK_rb := hK_rb.mono hx45.1
        obtain ⟨fs45tr, hOfs45tr, hRfs45tr⟩ := hx45.1.keep hO_tr
        have hKfs45tr : jokO _ (jFs 1) fs45tr := hW _ _ id hOfs45tr
        have hFfs45tr_1 := hRfs45tr _ _ hF_sT
        have hFfs45tr_2 := hRfs45tr _ _ hF_xxT
        have hFfs45tr_3 := hRfs45tr _ _ hF_yyT
        have hFfs45tr_4 := hRfs45tr _ _ hF_zzT
        have ha_S := (hX45_4 s (hAB s (List.mem_cons_of_mem _ List.mem_cons_self))).trans ha_S
        have ha_X := (hX45_4 xx (hAB xx (List.mem_cons_of_mem _ (List.mem_cons_of_mem _ List.mem_cons_self)))).trans ha_X
        have ha_Y := (hX45_4 yy (hAB yy (List.mem_cons_of_mem _ (List.mem_cons_of_mem _ (List.mem_cons_of_mem _ List.mem_cons_self))))).trans ha_Y
        have ha_Z := (hX45_4 zz (hAB zz (List.mem_cons_of_mem _ (List.mem_cons_of_mem _ (List.mem_cons_of_mem _ (List.mem_cons_of_mem _ List.mem_cons_self)))))).trans ha_Z
        have ha_SB := (hX45_4 sB (hCB sB (List.mem_cons_of_mem _ List.mem_cons_self))).trans ha_SB
        have ha_XB := (hX45_4 xxB (hCB xxB (List.mem_cons_of_mem _ (List.mem_cons_of_mem _ List.mem_cons_self)))).trans ha_XB
        have ha_YB := (hX45_4 yyB (hCB yyB (List.mem_cons_of_mem _ (List.mem_cons_of_mem _ (List.mem_cons_of_mem _ List.mem_cons_self))))).trans ha_YB
        have ha_ZB := (hX45_4 zzB (hCB zzB (List.mem_cons_of_mem _ (List.mem_cons_of_mem _ (List.mem_cons_of_mem _ (List.mem_cons_of_mem _ List.mem_cons_self)))))).trans ha_ZB
        cases hr45
        have hFv45_0 := hfv45_0.get hOfs45tr
        have hsb45_0 : MT = fv45_0 := (jI_inj.mp hfp45_0).symm
        subst hsb45_0
        have hFv45_1 := hfv45_1.get hOfs45tr
        have hsb45_1 : g = fv45_1 := (jI_inj.mp hfp45_1).symm
        subst hsb45_1
        have hFv45_2 := hfv45_2.get hOfs45tr
        have hsb45_2 : n = fv45_2 := (jI_inj.mp hfp45_2).symm
        subst hsb45_2
        obtain ⟨S45, hS45, hSe45⟩ := hX45_0
        obtain ⟨X45, hXa45, hXe45⟩ := hX45_1
        obtain ⟨Y45, hYa45, hYe45⟩ := hX45_2
        obtain ⟨Z45, hZa45, hZe45⟩ := hX45_3
        obtain ⟨hN_S45, hv_S45⟩ := WT_rngI (r := ((-2147483648), 2147483647)) hW id rfl hS45
        clear hN_S45
        obtain ⟨hN_X45, hv_X45⟩ := WT_rngI (r := ((-2147483648), 2147483647)) hW id rfl hXa45
        clear hN_X45
        obtain ⟨hN_Y45, hv_Y45⟩ := WT_rngI (r := ((-2147483648), 2147483647)) hW id rfl hYa45
        clear hN_Y45
        obtain ⟨hN_Z45, hv_Z45⟩ := WT_rngI (r := ((-2147483648), 2147483647)) hW id rfl hZa45
        clear hN_Z45
        refine Jz_iconst 0 dX6_join_48 (by decide) (fun y48 he48 => ?_)
        refine J_istore dX6_join_49 rfl (by decide) ?_
        have L51 : ∀ (N : Nat) (V : jH) (i5n51 : Int32) (gs51tr : List Value) (g6n51 : Int32) (F6n51 : Nat → Int32) (F34n51 : Nat → Int32) (F35n51 : Nat → Int32) (F36n51 : Nat → Int32), WT V → jeff [.inr 1, .inl 6, .inl 34, .inl 35, .inl 36] V0 V → (jis V (.inr 4) a0) → (jis V (.inl 4) md) → (jis V (.inr 1) tr) → (jis V (.inr 1) ro) → (jis V (.inl 6) s) → (jis V (.inl 34) xx) → (jis V (.inl 35) yy) → (jis V (.inl 36) zz) → (jis V (.inr 1) rb) → (jis V (.inl 6) sB) → (jis V (.inl 34) xxB) → (jis V (.inl 35) yyB) → (jis V (.inl 36) zzB) → (jis V (.inl 6) sT) → (jis V (.inl 34) xxT) → (jis V (.inl 35) yyT) → (jis V (.inl 36) zzT) → (jfp [ro, s, xx, yy, zz, tr, sT, xxT, yyT, zzT] V0 V) → (V a0 = some (.inr (4, fs_a0))) → (jokO V (jFs 4) fs_a0) → (V ro = some (.inr (1, fs_ro))) → (jokO V (jFs 1) fs_ro) → (V rb = some (.inr (1, fs_rb))) → (jokO V (jFs 1) fs_rb) → (V tr = some (.inr (1, gs51tr))) → (gs51tr[1]? = some (.ref sT)) → (gs51tr[2]? = some (.ref xxT)) → (gs51tr[3]? = some (.ref yyT)) → (gs51tr[4]? = some (.ref zzT)) → (gs51tr[0]? = some (.int MT)) → (gs51tr[5]? = some (.int g)) → (gs51tr[6]? = some (.int g6n51)) → (V sT = some (.inl (6, 120, .inl F6n51))) → (V xxT = some (.inl (34, 121, .inl F34n51))) → (V yyT = some (.inl (35, 121, .inl F35n51))) → (V zzT = some (.inl (36, 121, .inl F36n51))) → (V s = some (.inl (6, 60, .inl S))) → (V xx = some (.inl (34, 61, .inl X))) → (V yy = some (.inl (35, 61, .inl Y))) → (V zz = some (.inl (36, 61, .inl Z))) → (V sB = some (.inl (6, 60, .inl SB))) → (V xxB = some (.inl (34, 61, .inl XB))) → (V yyB = some (.inl (35, 61, .inl YB))) → (V zzB = some (.inl (36, 61, .inl ZB))) → (0 ≤ i5n51.toInt ∧ i5n51.toInt ≤ nB.toInt) → (g6n51.toInt = n.toInt + i5n51.toInt) → (∀ j : Nat, (j : Int) < g6n51.toInt → (F6n51 j).toInt = (jTj (fun q => (S q).toInt) n.toInt.toNat (fun q => (SB q).toInt)) j) → (jrv g.toInt (jTj (fun q => (S q).toInt) n.toInt.toNat (fun q => (SB q).toInt)) g6n51.toInt.toNat F34n51 F35n51 F36n51) → (jav g.toInt (jTj (fun q => (S q).toInt) n.toInt.toNat (fun q => (SB q).toInt)) g6n51.toInt.toNat) → (300 - i5n51.toInt).toNat < N → J tS mX6_join d 51 [some (.ref a0), some (.int x1), some (.int x2), some (.ref ro), some (.ref rb), some (.int i5n51)] [] V 0 0 (fun r V => (jPost [.inr 1, .inl 6, .inl 34, .inl 35, .inl 36] V0 (fun r _ => ∃ y : Int32, r = some (.int y) ∧ ((-2147483648) ≤ y.toInt) ∧ (y.toInt ≤ 2147483647) ∧ (y.toInt = (n.toInt + nB.toInt)))) r V ∧ (∃ S2 X2 Y2 Z2 : Nat → Int32, jrw V ro s xx yy zz 60 g.toInt (n.toInt + nB.toInt) S2 X2 Y2 Z2 ∧ (∀ j : Nat, (j : Int) < n.toInt + nB.toInt → (S2 j).toInt = (jTj (fun q => (S q).toInt) n.toInt.toNat (fun q => (SB q).toInt)) j) ∧ jrv g.toInt (jTj (fun q => (S q).toInt) n.toInt.toNat (fun q => (SB q).toInt)) (n.toInt + nB.toInt).toNat X2 Y2 Z2) ∧ (∃ (g2 n2 : Int) (S2 X2 Y2 Z2 : Nat → Int32), jrw V tr sT xxT yyT zzT 120 g2 n2 S2 X2 Y2 Z2 ∧ (X2 0).toInt = 0 ∧ (Y2 0).toInt = 0 ∧ (Z2 0).toInt = 0) ∧ jfp [ro, s, xx, yy, zz, tr, sT, xxT, yyT, zzT] V0 V) := by
          intro N
          induction N with
          | zero => intro V i5n51 gs51tr g6n51 F6n51 F34n51 F35n51 F36n51 hW he ha0 hb_md hb_tr hb_ro hb_s hb_xx hb_yy hb_zz hb_rb hb_sB hb_xxB hb_yyB hb_zzB hb_sT hb_xxT hb_yyT hb_zzT hfp hO_a0 hK_a0 hO_ro hK_ro hO_rb hK_rb hOgs51tr hFgs51tr_1 hFgs51tr_2 hFgs51tr_3 hFgs51tr_4 hFgs51tr_0 hFgs51tr_5 hFgs51tr_6 hAF6n51 hAF34n51 hAF35n51 hAF36n51 ha_S ha_X ha_Y ha_Z ha_SB ha_XB ha_YB ha_ZB hi htn hts hjv hav hm; exact absurd hm (Nat.not_lt_zero _)
          | succ N ih =>
            intro V i5n51 gs51tr g6n51 F6n51 F34n51 F35n51 F36n51 hW he ha0 hb_md hb_tr hb_ro hb_s hb_xx hb_yy hb_zz hb_rb hb_sB hb_xxB hb_yyB hb_zzB hb_sT hb_xxT hb_yyT hb_zzT hfp hO_a0 hK_a0 hO_ro hK_ro hO_rb hK_rb hOgs51tr hFgs51tr_1 hFgs51tr_2 hFgs51tr_3 hFgs51tr_4 hFgs51tr_0 hFgs51tr_5 hFgs51tr_6 hAF6n51 hAF34n51 hAF35n51 hAF36n51 ha_S ha_X ha_Y ha_Z ha_SB ha_XB ha_YB ha_ZB hi htn hts hjv hav hm
            have ih51 := ih
            have hri5 := j_rng i5n51
            have hKgs51tr : jokO V (jFs 1) gs51tr := hW _ _ id hOgs51tr
            have hrgg6n51 : 0 ≤ g6n51.toInt ∧ g6n51.toInt ≤ 120 := jok_rngI hKgs51tr rfl hFgs51tr_6
            obtain ⟨hNF6n51, hvF6n51⟩ := WT_rngI (r := ((-2147483648), 2147483647)) hW id rfl hAF6n51
            clear hNF6n51
            obtain ⟨hNF34n51, hvF34n51⟩ := WT_rngI (r := ((-2147483648), 2147483647)) hW id rfl hAF34n51
            clear hNF34n51
            obtain ⟨hNF35n51, hvF35n51⟩ := WT_rngI (r := ((-2147483648), 2147483647)) hW id rfl hAF35n51
            clear hNF35n51
            obtain ⟨hNF36n51, hvF36n51⟩ := WT_rngI (r := ((-2147483648), 2147483647)) hW id rfl hAF36n51
            clear hNF36n51
            refine J_iload dX6_join_51 rfl ?_
            refine J_aload dX6_join_53 rfl ?_
            refine J_get jf_X6_69 dX6_join_55 hO_rb hF_nB ?_
            refine Jz_icmp_ge (tgt := 87) jEq.rf jEq.rf dX6_join_58 (by decide) (fun c58 => ?_) (fun c58 => ?_)
            · refine J_aload_n dX6_join_87 rfl ?_
              refine J_get jf_X6_22 dX6_join_88 hO_a0 hF_tr ?_
              refine J_get jf_X6_69 dX6_join_91 hOgs51tr hFgs51tr_6 ?_
              refine Jz_bipush 60 dX6_join_94 (by decide) (fun y94 he94 => ?_)
              refine Jz_icmp_le (tgt := 102) jEq.rf he94 dX6_join_96 (by decide) (fun c96 => ?_) (fun c96 => ?_)
              · refine J_aload_n dX6_join_102 rfl ?_
                refine J_aload_n dX6_join_103 rfl ?_
                refine J_get jf_X6_22 dX6_join_104 hO_a0 hF_tr ?_
                have hfin : g6n51.toInt = n.toInt + nB.toInt := by omega
                refine Jw_callV1 (q9 := (RX3, TX3, 7)) moX3_become jw_ml_X6_89 jw_im_X3_become jw_se_X3_become hb_ro rfl rfl dX6_join_107 (w_X3_become_z (d - 1) _ ro tr M g g6n51 s xx yy zz sT xxT yyT zzT S X Y Z F6n51 F34n51 F35n51 F36n51 (by omega) hW  hb_ro hb_tr ⟨_, hO_ro, hF_M⟩ ⟨_, hOgs51tr, hFgs51tr_5⟩ ⟨_, hOgs51tr, hFgs51tr_6⟩ ⟨_, hO_ro, hF_s⟩ ⟨_, hO_ro, hF_xx⟩ ⟨_, hO_ro, hF_yy⟩ ⟨_, hO_ro, hF_zz⟩ ⟨_, hOgs51tr, hFgs51tr_1⟩ ⟨_, hOgs51tr, hFgs51tr_2⟩ ⟨_, hOgs51tr, hFgs51tr_3⟩ ⟨_, hOgs51tr, hFgs51tr_4⟩ (fun e => hBA tr List.mem_cons_self (e ▸ List.mem_cons_self)) (fun e => hBA sT (List.mem_cons_of_mem _ List.mem_cons_self) (e ▸ (List.mem_cons_of_mem _ List.mem_cons_self))) (fun e => hBA xxT (List.mem_cons_of_mem _ (List.mem_cons_of_mem _ List.mem_cons_self)) (e ▸ (List.mem_cons_of_mem _ (List.mem_cons_of_mem _ List.mem_cons_self)))) (fun e => hBA yyT (List.mem_cons_of_mem _ (List.mem_cons_of_mem _ (List.mem_cons_of_mem _ List.mem_cons_self))) (e ▸ (List.mem_cons_of_mem _ (List.mem_cons_of_mem _ (List.mem_cons_of_mem _ List.mem_cons_self))))) (fun e => hBA zzT (List.mem_cons_of_mem _ (List.mem_cons_of_mem _ (List.mem_cons_of_mem _ (List.mem_cons_of_mem _ List.mem_cons_self)))) (e ▸ (List.mem_cons_of_mem _ (List.mem_cons_of_mem _ (List.mem_cons_of_mem _ (List.mem_cons_of_mem _ List.mem_cons_self)))))) ha_S ha_X ha_Y ha_Z hAF6n51 hAF34n51 hAF35n51 hAF36n51 (by omega) (by omega) (by omega) (by omega) (by omega)) (by omega) (Nat.zero_le _) (Nat.zero_le _) (Nat.le_of_ble_eq_true rfl) (fun r107 V107 h107 => ?_)
                obtain ⟨h107, hX107_0, hX107_1, hX107_2, hX107_3, hX107_4, ⟨fv107_0, hfv107_0, hfp107_0⟩, ⟨fv107_1, hfv107_1, hfp107_1⟩, ⟨fv107_2, hfv107_2, hfp107_2⟩⟩ := h107
                obtain ⟨hW, hx107, hr107⟩ := h107
                have he := he.trans (hx107.sub (jsub_of rfl))
                have hfp := hfp.trans (hX107_4.sub (fun b hb => by simp only [List.mem_cons, List.not_mem_nil, or_false] at hb ⊢; omega))
                have ha0 := ha0.mono hx107.1
                have hb_md := hb_md.mono hx107.1
                have hb_tr := hb_tr.mono hx107.1
                have hb_ro := hb_ro.mono hx107.1
                have hb_s := hb_s.mono hx107.1
                have hb_xx := hb_xx.mono hx107.1
                have hb_yy := hb_yy.mono hx107.1
                have hb_zz := hb_zz.mono hx107.1
                have hb_rb := hb_rb.mono hx107.1
                have hb_sB := hb_sB.mono hx107.1
                have hb_xxB := hb_xxB.mono hx107.1
                have hb_yyB := hb_yyB.mono hx107.1
                have hb_zzB := hb_zzB.mono hx107.1
                have hb_sT := hb_sT.mono hx107.1
                have hb_xxT := hb_xxT.mono hx107.1
                have hb_yyT := hb_yyT.mono hx107.1
                have hb_zzT := hb_zzT.mono hx107.1
                have hO_a0 := hx107.2 _ _ hO_a0 (jnot_of rfl)
                have hK_a0 := hK_a0.mono hx107.1
                obtain ⟨fs107ro, hOfs107ro, hRfs107ro⟩ := hx107.1.keep hO_ro
                have hKfs107ro : jokO _ (jFs 1) fs107ro := hW _ _ id hOfs107ro
                have hFfs107ro_1 := hRfs107ro _ _ hF_s
                have hFfs107ro_2 := hRfs107ro _ _ hF_xx
                have hFfs107ro_3 := hRfs107ro _ _ hF_yy
                have hFfs107ro_4 := hRfs107ro _ _ hF_zz
                obtain ⟨fs107rb, hOfs107rb, hRfs107rb⟩ := hx107.1.keep hO_rb
                have hKfs107rb : jokO _ (jFs 1) fs107rb := hW _ _ id hOfs107rb
                have hFfs107rb_1 := hRfs107rb _ _ hF_sB
                have hFfs107rb_2 := hRfs107rb _ _ hF_xxB
                have hFfs107rb_3 := hRfs107rb _ _ hF_yyB
                have hFfs107rb_4 := hRfs107rb _ _ hF_zzB
                have hOgs51tr := (hX107_4 tr (hBA tr List.mem_cons_self)).trans hOgs51tr
                have hKgs51tr := hKgs51tr.mono hx107.1
                have hAF6n51 := (hX107_4 sT (hBA sT (List.mem_cons_of_mem _ List.mem_cons_self))).trans hAF6n51
                have hAF34n51 := (hX107_4 xxT (hBA xxT (List.mem_cons_of_mem _ (List.mem_cons_of_mem _ List.mem_cons_self)))).trans hAF34n51
                have hAF35n51 := (hX107_4 yyT (hBA yyT (List.mem_cons_of_mem _ (List.mem_cons_of_mem _ (List.mem_cons_of_mem _ List.mem_cons_self))))).trans hAF35n51
                have hAF36n51 := (hX107_4 zzT (hBA zzT (List.mem_cons_of_mem _ (List.mem_cons_of_mem _ (List.mem_cons_of_mem _ (List.mem_cons_of_mem _ List.mem_cons_self)))))).trans hAF36n51
                cases hr107
                have hFv107_0 := hfv107_0.get hOfs107ro
                have hsb107_0 : M = fv107_0 := (jI_inj.mp hfp107_0).symm
                subst hsb107_0
                have hFv107_1 := hfv107_1.get hOfs107ro
                have hsb107_1 : g = fv107_1 := (jI_inj.mp hfp107_1).symm
                subst hsb107_1
                have hFv107_2 := hfv107_2.get hOfs107ro
                have hsb107_2 : g6n51 = fv107_2 := (jI_inj.mp hfp107_2).symm
                subst hsb107_2
                obtain ⟨S107, hS107, hSe107⟩ := hX107_0
                obtain ⟨X107, hXa107, hXe107⟩ := hX107_1
                obtain ⟨Y107, hYa107, hYe107⟩ := hX107_2
                obtain ⟨Z107, hZa107, hZe107⟩ := hX107_3
                obtain ⟨hN_S107, hv_S107⟩ := WT_rngI (r := ((-2147483648), 2147483647)) hW id rfl hS107
                clear hN_S107
                obtain ⟨hN_X107, hv_X107⟩ := WT_rngI (r := ((-2147483648), 2147483647)) hW id rfl hXa107
                clear hN_X107
                obtain ⟨hN_Y107, hv_Y107⟩ := WT_rngI (r := ((-2147483648), 2147483647)) hW id rfl hYa107
                clear hN_Y107
                obtain ⟨hN_Z107, hv_Z107⟩ := WT_rngI (r := ((-2147483648), 2147483647)) hW id rfl hZa107
                clear hN_Z107
                refine J_aload_n dX6_join_110 rfl ?_
                refine J_get jf_X6_69 dX6_join_111 hOfs107ro hFv107_2 ?_
                exact J_ret (r := some (.int _)) dX6_join_114 ⟨rfl, _, rfl, rfl⟩ (⟨⟨hW, he, ⟨_, rfl, (j_rng _).1, (j_rng _).2, (by omega)⟩⟩, ⟨S107, X107, Y107, Z107, ⟨⟨_, ⟨_, hOfs107ro, hFv107_0⟩, hm_ro⟩, ⟨_, ⟨_, hOfs107ro, hFv107_1⟩, rfl⟩, ⟨_, ⟨_, hOfs107ro, hFv107_2⟩, hfin⟩, ⟨_, hOfs107ro, hFfs107ro_1⟩, ⟨_, hOfs107ro, hFfs107ro_2⟩, ⟨_, hOfs107ro, hFfs107ro_3⟩, ⟨_, hOfs107ro, hFfs107ro_4⟩, hS107, hXa107, hYa107, hZa107⟩, (fun j hj => by rw [hSe107 j (by omega)]; exact hts j (by omega)), (by rw [← hfin]; intro i hi; rw [hXe107 i (by omega), hYe107 i (by omega), hZe107 i (by omega)]; exact hjv i hi)⟩, ⟨_, _, _, _, _, _, ⟨⟨_, ⟨_, hOgs51tr, hFgs51tr_0⟩, hm_tr⟩, ⟨_, ⟨_, hOgs51tr, hFgs51tr_5⟩, rfl⟩, ⟨_, ⟨_, hOgs51tr, hFgs51tr_6⟩, rfl⟩, ⟨_, hOgs51tr, hFgs51tr_1⟩, ⟨_, hOgs51tr, hFgs51tr_2⟩, ⟨_, hOgs51tr, hFgs51tr_3⟩, ⟨_, hOgs51tr, hFgs51tr_4⟩, hAF6n51, hAF34n51, hAF35n51, hAF36n51⟩, (hjv 0 (Nat.zero_le _))⟩, hfp⟩)
              · exact False.elim (by omega)
            · refine J_aload_n dX6_join_61 rfl ?_
              refine J_get jf_X6_22 dX6_join_62 hO_a0 hF_tr ?_
              refine J_aload dX6_join_65 rfl ?_
              refine J_iload dX6_join_67 rfl ?_
              refine Jw_callV1 (q9 := (RX3, TX3, 7)) moX3_direction jw_ml_X6_81 jw_im_X3_direction jw_se_X3_direction hb_rb rfl rfl dX6_join_69 (w_X3_direction_z (d - 1) _ rb i5n51 sB SB (by omega) hW  hb_rb ⟨_, hO_rb, hF_sB⟩ ha_SB (by omega) (by omega) (by omega)) (by omega) (Nat.zero_le _) (Nat.zero_le _) (Nat.le_of_ble_eq_true rfl) (fun r69 V69 h69 => ?_)
              obtain ⟨⟨y69, rfl, hl69, hh69, hP69_0⟩, hE69⟩ := h69
              have hE69 := hE69.symm
              subst hE69
              clear hl69 hh69
              have hz69 : jEq y69.toInt ((SB (i5n51.toInt).toNat).toInt) := hP69_0
              clear hP69_0
              have hsd := hp7 i5n51.toInt.toNat (by omega)
              rw [← hp6] at hsd
              have htp : (jTj (fun q => (S q).toInt) n.toInt.toNat (fun q => (SB q).toInt)) g6n51.toInt.toNat = y69.toInt := (by unfold jTj; rw [if_neg (by omega)]; (show (SB _).toInt = _); rw [show g6n51.toInt.toNat - n.toInt.toNat = i5n51.toInt.toNat by omega]; exact (hz69.eq).symm)
              have hbx := hjv.b g6n51.toInt.toNat (Nat.le_refl _)
              have hcc : jav g.toInt (jTj (fun q => (S q).toInt) n.toInt.toNat (fun q => (SB q).toInt)) (g6n51.toInt.toNat + 1) := hp13.mono (by omega)
              refine Jw_callV1 (q9 := (RX3, TX3, 7)) moX3_lay jw_ml_X6_72 jw_im_X3_lay jw_se_X3_lay hb_tr rfl rfl dX6_join_72 (w_X3_lay_yes (d - 1) _ tr y69 MT g g6n51 sT xxT yyT zzT F6n51 F34n51 F35n51 F36n51 (by omega) hW  hb_tr ⟨_, hOgs51tr, hFgs51tr_0⟩ ⟨_, hOgs51tr, hFgs51tr_5⟩ ⟨_, hOgs51tr, hFgs51tr_6⟩ ⟨_, hOgs51tr, hFgs51tr_1⟩ ⟨_, hOgs51tr, hFgs51tr_2⟩ ⟨_, hOgs51tr, hFgs51tr_3⟩ ⟨_, hOgs51tr, hFgs51tr_4⟩ hAF6n51 hAF34n51 hAF35n51 hAF36n51 (by omega) (by omega) (by omega) (by omega) (by omega) (by first | omega | (simp only [hz69.eq]; omega)) (by first | omega | (simp only [hz69.eq]; omega)) (by omega) (by omega) (by omega) (by omega) (by omega) (by omega) (by omega) (fun j hj q => (jav_succ.mp hcc).2 j (by omega) ((hjv.next (by omega)).mpr (by rw [htp]; exact q)))) (by omega) (Nat.zero_le _) (Nat.zero_le _) (Nat.le_of_ble_eq_true rfl) (fun r72 V72 h72 => ?_)
              obtain ⟨h72, hX72_0, hX72_1, hX72_2, hX72_3, hX72_4, ⟨fv72_0, hfv72_0, hfp72_0⟩, ⟨fv72_1, hfv72_1, hfp72_1⟩, ⟨fv72_2, hfv72_2, hfp72_2⟩⟩ := h72
              obtain ⟨hW, hx72, hr72⟩ := h72
              have he := he.trans (hx72.sub (jsub_of rfl))
              have hfp := hfp.trans (hX72_4.sub (fun b hb => by simp only [List.mem_cons, List.not_mem_nil, or_false] at hb ⊢; omega))
              have ha0 := ha0.mono hx72.1
              have hb_md := hb_md.mono hx72.1
              have hb_tr := hb_tr.mono hx72.1
              have hb_ro := hb_ro.mono hx72.1
              have hb_s := hb_s.mono hx72.1
              have hb_xx := hb_xx.mono hx72.1
              have hb_yy := hb_yy.mono hx72.1
              have hb_zz := hb_zz.mono hx72.1
              have hb_rb := hb_rb.mono hx72.1
              have hb_sB := hb_sB.mono hx72.1
              have hb_xxB := hb_xxB.mono hx72.1
              have hb_yyB := hb_yyB.mono hx72.1
              have hb_zzB := hb_zzB.mono hx72.1
              have hb_sT := hb_sT.mono hx72.1
              have hb_xxT := hb_xxT.mono hx72.1
              have hb_yyT := hb_yyT.mono hx72.1
              have hb_zzT := hb_zzT.mono hx72.1
              have hO_a0 := hx72.2 _ _ hO_a0 (jnot_of rfl)
              have hK_a0 := hK_a0.mono hx72.1
              have hO_ro := (hX72_4 ro (hAB ro List.mem_cons_self)).trans hO_ro
              have hK_ro := hK_ro.mono hx72.1
              have hO_rb := (hX72_4 rb (hCB rb List.mem_cons_self)).trans hO_rb
              have hK_rb := hK_rb.mono hx72.1
              obtain ⟨fs72tr, hOfs72tr, hRfs72tr⟩ := hx72.1.keep hOgs51tr
              have hKfs72tr : jokO _ (jFs 1) fs72tr := hW _ _ id hOfs72tr
              have hFfs72tr_1 := hRfs72tr _ _ hFgs51tr_1
              have hFfs72tr_2 := hRfs72tr _ _ hFgs51tr_2
              have hFfs72tr_3 := hRfs72tr _ _ hFgs51tr_3
              have hFfs72tr_4 := hRfs72tr _ _ hFgs51tr_4
              have ha_S := (hX72_4 s (hAB s (List.mem_cons_of_mem _ List.mem_cons_self))).trans ha_S
              have ha_X := (hX72_4 xx (hAB xx (List.mem_cons_of_mem _ (List.mem_cons_of_mem _ List.mem_cons_self)))).trans ha_X
              have ha_Y := (hX72_4 yy (hAB yy (List.mem_cons_of_mem _ (List.mem_cons_of_mem _ (List.mem_cons_of_mem _ List.mem_cons_self))))).trans ha_Y
              have ha_Z := (hX72_4 zz (hAB zz (List.mem_cons_of_mem _ (List.mem_cons_of_mem _ (List.mem_cons_of_mem _ (List.mem_cons_of_mem _ List.mem_cons_self)))))).trans ha_Z
              have ha_SB := (hX72_4 sB (hCB sB (List.mem_cons_of_mem _ List.mem_cons_self))).trans ha_SB
              have ha_XB := (hX72_4 xxB (hCB xxB (List.mem_cons_of_mem _ (List.mem_cons_of_mem _ List.mem_cons_self)))).trans ha_XB
              have ha_YB := (hX72_4 yyB (hCB yyB (List.mem_cons_of_mem _ (List.mem_cons_of_mem _ (List.mem_cons_of_mem _ List.mem_cons_self))))).trans ha_YB
              have ha_ZB := (hX72_4 zzB (hCB zzB (List.mem_cons_of_mem _ (List.mem_cons_of_mem _ (List.mem_cons_of_mem _ (List.mem_cons_of_mem _ List.mem_cons_self)))))).trans ha_ZB
              obtain ⟨y72, rfl, hl72, hh72, hP72_0⟩ := hr72
              try simp only [hz69.eq] at hP72_0
              have hFv72_0 := hfv72_0.get hOfs72tr
              try simp only [hz69.eq] at hfp72_0
              have hzf72_0 : jEq fv72_0.toInt ((g6n51.toInt) + 1) := hfp72_0
              clear hfp72_0
              have hFv72_1 := hfv72_1.get hOfs72tr
              try simp only [hz69.eq] at hfp72_1
              have hsb72_1 : MT = fv72_1 := (jI_inj.mp hfp72_1).symm
              subst hsb72_1
              have hFv72_2 := hfv72_2.get hOfs72tr
              try simp only [hz69.eq] at hfp72_2
              have hsb72_2 : g = fv72_2 := (jI_inj.mp hfp72_2).symm
              subst hsb72_2
              obtain ⟨S72, hS72, hSn72, hSo72⟩ := hX72_0
              obtain ⟨X72, hXa72, hXn72, hXo72⟩ := hX72_1
              obtain ⟨Y72, hYa72, hYn72, hYo72⟩ := hX72_2
              obtain ⟨Z72, hZa72, hZn72, hZo72⟩ := hX72_3
              obtain ⟨hN_S72, hv_S72⟩ := WT_rngI (r := ((-2147483648), 2147483647)) hW id rfl hS72
              clear hN_S72
              obtain ⟨hN_X72, hv_X72⟩ := WT_rngI (r := ((-2147483648), 2147483647)) hW id rfl hXa72
              clear hN_X72
              obtain ⟨hN_Y72, hv_Y72⟩ := WT_rngI (r := ((-2147483648), 2147483647)) hW id rfl hYa72
              clear hN_Y72
              obtain ⟨hN_Z72, hv_Z72⟩ := WT_rngI (r := ((-2147483648), 2147483647)) hW id rfl hZa72
              clear hN_Z72
              refine Jz_if_ne (tgt := 81) jEq.rf dX6_join_75 (by decide) (fun c75 => ?_) (fun c75 => ?_)
              · refine Jz_iinc 1 dX6_join_81 rfl rfl (by decide) jEq.rf (by decide) (by omega) (by omega) (fun y81 he81 => ?_)
                refine J_goto (tgt := 51) dX6_join_84 (by decide) ?_
                refine J.mask [true, true, true, true, true, true] ?_
                exact ih51 _ y81 fs72tr fv72_0 S72 X72 Y72 Z72 hW he ha0 hb_md hb_tr hb_ro hb_s hb_xx hb_yy hb_zz hb_rb hb_sB hb_xxB hb_yyB hb_zzB hb_sT hb_xxT hb_yyT hb_zzT hfp hO_a0 hK_a0 hO_ro hK_ro hO_rb hK_rb hOfs72tr hFfs72tr_1 hFfs72tr_2 hFfs72tr_3 hFfs72tr_4 hFv72_1 hFv72_2 hFv72_0 hS72 hXa72 hYa72 hZa72 ha_S ha_X ha_Y ha_Z ha_SB ha_XB ha_YB ha_ZB (by (try simp only [he81.eq, hzf72_0.eq, true_and, and_true]) <;> omega) (by (try simp only [he81.eq, hzf72_0.eq, true_and, and_true]) <;> omega) (fun j hj => by rw [hzf72_0.eq] at hj; by_cases c : (j : Int) = g6n51.toInt; (have e : j = g6n51.toInt.toNat := by omega); subst e; rw [hSn72, htp]; rw [hSo72 j (by omega)]; exact hts j (by omega)) (by rw [hzf72_0.eq, show (g6n51.toInt + 1).toNat = g6n51.toInt.toNat + 1 by omega]; exact hjv.lay (by rw [hXn72, htp]) (by rw [hYn72, htp]) (by rw [hZn72, htp]) hXo72 hYo72 hZo72) (by rw [hzf72_0.eq, show (g6n51.toInt + 1).toNat = g6n51.toInt.toNat + 1 by omega]; exact hcc) (by (try simp only [he81.eq, hzf72_0.eq, true_and, and_true]) <;> omega)
              · exact False.elim (by omega)
        refine J.mask [true, true, true, true, true, true] ?_
        exact L51 _ _ y48 fs45tr n S45 X45 Y45 Z45 hW he ha0 hb_md hb_tr hb_ro hb_s hb_xx hb_yy hb_zz hb_rb hb_sB hb_xxB hb_yyB hb_zzB hb_sT hb_xxT hb_yyT hb_zzT hfp hO_a0 hK_a0 hO_ro hK_ro hO_rb hK_rb hOfs45tr hFfs45tr_1 hFfs45tr_2 hFfs45tr_3 hFfs45tr_4 hFv45_0 hFv45_1 hFv45_2 hS45 hXa45 hYa45 hZa45 ha_S ha_X ha_Y ha_Z ha_SB ha_XB ha_YB ha_ZB (by (try simp only [he48.eq, true_and, and_true]) <;> omega) (by (try simp only [he48.eq, true_and, and_true]) <;> omega) (fun j hj => by rw [hSe45 j hj]; unfold jTj; rw [if_pos (by omega)]) (by intro i hi; rw [hXe45 i (by omega), hYe45 i (by omega), hZe45 i (by omega)]; exact (hp11.congr (fun q hq => by unfold jTj; rw [if_pos hq])) i hi) (hp12.congr (fun q hq => by unfold jTj; rw [if_pos hq])) (Nat.lt_succ_self _)
      · exact False.elim (by omega)
set_option maxRecDepth 100000 in
set_option maxHeartbeats 8000000 in
theorem w_X6_turnBack_out {tS : jTS} (d : Nat) (V0 : jH) (a0 : Nat) (x1 : Int32) (k : Int32) (md : Nat) (hd : 4 ≤ d) (hW : WT V0) (ha0 : jis V0 (.inr 4) a0) (hf_k : jfI V0 a0 4 1 k) (hr_md : jfR V0 a0 4 0 md) (hp0 : ¬ (0 ≤ x1.toInt ∧ x1.toInt < k.toInt)) : jTot tS mX6_turnBack d [.ref a0, .int x1] V0 0 0 (fun r V => (fun r _ => ∃ y : Int32, r = some (.int y) ∧ ((-2147483648) ≤ y.toInt) ∧ (y.toInt ≤ 2147483647) ∧ (y.toInt = -2)) r V ∧ V = V0) := by
  refine jTot.of_J [some (.ref a0), some (.int x1), none, none] moX6_turnBack (Nat.le_of_ble_eq_true rfl) rfl ?_
  have hrx1 := j_rng x1
  have he : jeff [] V0 V0 := jeff.refl _ _
  obtain ⟨fs_a0, hO_a0, hK_a0⟩ := WT_obj hW id ha0
  have hF_k := hf_k.get hO_a0
  have hrk : 0 ≤ k.toInt ∧ k.toInt ≤ 16 := jok_rngI hK_a0 rfl hF_k
  have hF_md := hr_md.get hO_a0
  obtain ⟨w_md, hFq_md, b_md, hbq_md, hb_md⟩ := hK_a0.2 0 (.inr (some (.inl 4))) rfl
  cases hF_md.symm.trans (hFq_md.trans (congrArg some hbq_md))
  refine J_aload_n dX6_turnBack_0 rfl ?_
  refine J_iload_n dX6_turnBack_1 rfl ?_
  refine Jw_callV1 (q9 := (RX6, TX6, 7)) moX6_rowOf jw_ml_X6_55 jw_im_X6_rowOf jw_se_X6_rowOf ha0 rfl rfl dX6_turnBack_2 (w_X6_rowOf_out (d - 1) _ a0 x1 hO_a0 hF_k (by omega)) (by omega) (Nat.zero_le _) (Nat.zero_le _) (Nat.le_of_ble_eq_true rfl) (fun r2 V2 h2 => ?_)
  obtain ⟨rfl, hE2⟩ := h2
  have hE2 := hE2.symm
  subst hE2
  · refine J_astore_nN dX6_turnBack_5 rfl (by decide) ?_
    refine J_aload_nN dX6_turnBack_6 rfl ?_
    refine J_ifnonnullN dX6_turnBack_7 ?_
    refine Jz_bipush (-2) dX6_turnBack_10 (by decide) (fun y10 he10 => ?_)
    exact J_ret (r := some (.int _)) dX6_turnBack_12 ⟨rfl, _, rfl, rfl⟩ (⟨⟨_, rfl, (j_rng _).1, (j_rng _).2, (by (try simp only [he10.eq, true_and, and_true]) <;> omega)⟩, rfl⟩)
set_option maxRecDepth 100000 in
set_option maxHeartbeats 8000000 in
theorem w_X6_turnBack_odd {tS : jTS} (d : Nat) (V0 : jH) (a0 : Nat) (x1 : Int32) (k : Int32) (md : Nat) (f : Nat → Option Nat) (ro : Nat) (M : Int32) (g : Int32) (n : Int32) (s : Nat) (xx : Nat) (yy : Nat) (zz : Nat) (S : Nat → Int32) (X : Nat → Int32) (Y : Nat → Int32) (Z : Nat → Int32) (hd : 4 ≤ d) (hW : WT V0) (ha0 : jis V0 (.inr 4) a0) (hf_k : jfI V0 a0 4 1 k) (hr_md : jfR V0 a0 4 0 md) (ha_f : V0 md = some (.inl (4, 16, .inr (.inr (.inr (.inr f)))))) (hf_M : jfI V0 ro 1 0 M) (hf_g : jfI V0 ro 1 5 g) (hf_n : jfI V0 ro 1 6 n) (hr_s : jfR V0 ro 1 1 s) (hr_xx : jfR V0 ro 1 2 xx) (hr_yy : jfR V0 ro 1 3 yy) (hr_zz : jfR V0 ro 1 4 zz) (ha_S : V0 s = some (.inl (6, 60, .inl S))) (ha_X : V0 xx = some (.inl (34, 61, .inl X))) (ha_Y : V0 yy = some (.inl (35, 61, .inl Y))) (ha_Z : V0 zz = some (.inl (36, 61, .inl Z))) (hm_ro : M.toInt = 60) (hn_ro : n.toInt ≤ 60) (hfo : f x1.toInt.toNat = some ro) (hp0 : 0 ≤ x1.toInt) (hp1 : x1.toInt < k.toInt) (hp2 : 0 ≤ g.toInt) (hp3 : g.toInt ≤ 3) (hp4 : jrv g.toInt (fun q => (S q).toInt) n.toInt.toNat X Y Z) (hp5 : g.toInt = 2) (hp6 : ¬ ((jPt g.toInt (fun q => (S q).toInt) n.toInt.toNat).1 + (jPt g.toInt (fun q => (S q).toInt) n.toInt.toNat).2.1) % 2 = 0) : jTot tS mX6_turnBack d [.ref a0, .int x1] V0 0 0 (fun r V => (fun r _ => ∃ y : Int32, r = some (.int y) ∧ ((-2147483648) ≤ y.toInt) ∧ (y.toInt ≤ 2147483647) ∧ (y.toInt = -3)) r V ∧ V = V0) := by
  refine jTot.of_J [some (.ref a0), some (.int x1), none, none] moX6_turnBack (Nat.le_of_ble_eq_true rfl) rfl ?_
  have hrx1 := j_rng x1
  have he : jeff [] V0 V0 := jeff.refl _ _
  obtain ⟨fs_a0, hO_a0, hK_a0⟩ := WT_obj hW id ha0
  have hF_k := hf_k.get hO_a0
  have hrk : 0 ≤ k.toInt ∧ k.toInt ≤ 16 := jok_rngI hK_a0 rfl hF_k
  have hF_md := hr_md.get hO_a0
  obtain ⟨w_md, hFq_md, b_md, hbq_md, hb_md⟩ := hK_a0.2 0 (.inr (some (.inl 4))) rfl
  cases hF_md.symm.trans (hFq_md.trans (congrArg some hbq_md))
  have hb_ro : jis V0 (.inr 1) ro := by obtain ⟨q1, q2, q3⟩ := hf_M; exact ⟨_, q2, rfl⟩
  obtain ⟨fs_ro, hO_ro, hK_ro⟩ := WT_obj hW id hb_ro
  have hF_M := hf_M.get hO_ro
  have hrM : 0 ≤ M.toInt ∧ M.toInt ≤ 120 := jok_rngI hK_ro rfl hF_M
  have hF_g := hf_g.get hO_ro
  have hrg : (-2147483648) ≤ g.toInt ∧ g.toInt ≤ 2147483647 := jok_rngI hK_ro rfl hF_g
  have hF_n := hf_n.get hO_ro
  have hrn : 0 ≤ n.toInt ∧ n.toInt ≤ 120 := jok_rngI hK_ro rfl hF_n
  have hF_s := hr_s.get hO_ro
  have hb_s : jis V0 (.inl 6) s := ⟨_, ha_S, rfl⟩
  obtain ⟨hN_S, hv_S⟩ := WT_rngI (r := (-2147483648, 2147483647)) hW id rfl ha_S
  clear hN_S
  have hF_xx := hr_xx.get hO_ro
  have hb_xx : jis V0 (.inl 34) xx := ⟨_, ha_X, rfl⟩
  obtain ⟨hN_X, hv_X⟩ := WT_rngI (r := (-2147483648, 2147483647)) hW id rfl ha_X
  clear hN_X
  have hF_yy := hr_yy.get hO_ro
  have hb_yy : jis V0 (.inl 35) yy := ⟨_, ha_Y, rfl⟩
  obtain ⟨hN_Y, hv_Y⟩ := WT_rngI (r := (-2147483648, 2147483647)) hW id rfl ha_Y
  clear hN_Y
  have hF_zz := hr_zz.get hO_ro
  have hb_zz : jis V0 (.inl 36) zz := ⟨_, ha_Z, rfl⟩
  obtain ⟨hN_Z, hv_Z⟩ := WT_rngI (r := (-2147483648, 2147483647)) hW id rfl ha_Z
  clear hN_Z
  refine J_aload_n dX6_turnBack_0 rfl ?_
  refine J_iload_n dX6_turnBack_1 rfl ?_
  have hbx := hp4.b n.toInt.toNat (Nat.le_refl _)
  have hpq := hp4 n.toInt.toNat (Nat.le_refl _)
  refine Jw_callV1 (q9 := (RX6, TX6, 7)) moX6_rowOf jw_ml_X6_55 jw_im_X6_rowOf jw_se_X6_rowOf ha0 rfl rfl dX6_turnBack_2 (w_X6_rowOf_in (d - 1) _ a0 x1 hO_a0 hF_md hF_k ha_f (by omega) (by omega) (by omega) hfo) (by omega) (Nat.zero_le _) (Nat.zero_le _) (Nat.le_of_ble_eq_true rfl) (fun r2 V2 h2 => ?_)
  obtain ⟨rfl, hE2⟩ := h2
  have hE2 := hE2.symm
  subst hE2
  · refine J_astore_n dX6_turnBack_5 rfl (by decide) ?_
    refine J_aload_n dX6_turnBack_6 rfl ?_
    refine J_ifnonnull (tgt := 13) dX6_turnBack_7 (by decide) ?_
    refine J_aload_n dX6_turnBack_13 rfl ?_
    refine J_get jf_X6_59 dX6_turnBack_14 hO_ro hF_g ?_
    refine Jz_iconst 2 dX6_turnBack_17 (by decide) (fun y17 he17 => ?_)
    refine Jz_icmp_ne (tgt := 38) jEq.rf he17 dX6_turnBack_18 (by decide) (fun c18 => ?_) (fun c18 => ?_)
    · exact False.elim (by omega)
    · refine J_aload_n dX6_turnBack_21 rfl ?_
      refine Jw_callV0 (q9 := (RX3, TX3, 7)) moX3_endX jw_ml_X6_93 jw_im_X3_endX jw_se_X3_endX hb_ro rfl rfl dX6_turnBack_22 (w_X3_endX_z (d - 1) _ ro M g n s xx yy zz S X Y Z (by omega) hW  hb_ro ⟨_, hO_ro, hF_M⟩ ⟨_, hO_ro, hF_g⟩ ⟨_, hO_ro, hF_n⟩ ⟨_, hO_ro, hF_s⟩ ⟨_, hO_ro, hF_xx⟩ ⟨_, hO_ro, hF_yy⟩ ⟨_, hO_ro, hF_zz⟩ ha_S ha_X ha_Y ha_Z (by omega) (by omega) (by omega)) (by omega) (Nat.zero_le _) (Nat.zero_le _) (Nat.le_of_ble_eq_true rfl) (fun r22 V22 h22 => ?_)
      obtain ⟨⟨y22, rfl, hl22, hh22, hP22_0⟩, hE22⟩ := h22
      have hE22 := hE22.symm
      subst hE22
      clear hl22 hh22
      have hz22 : jEq y22.toInt ((X (n.toInt).toNat).toInt) := hP22_0
      clear hP22_0
      refine J_aload_n dX6_turnBack_25 rfl ?_
      refine Jw_callV0 (q9 := (RX3, TX3, 7)) moX3_endY jw_ml_X6_97 jw_im_X3_endY jw_se_X3_endY hb_ro rfl rfl dX6_turnBack_26 (w_X3_endY_z (d - 1) _ ro M g n s xx yy zz S X Y Z (by omega) hW  hb_ro ⟨_, hO_ro, hF_M⟩ ⟨_, hO_ro, hF_g⟩ ⟨_, hO_ro, hF_n⟩ ⟨_, hO_ro, hF_s⟩ ⟨_, hO_ro, hF_xx⟩ ⟨_, hO_ro, hF_yy⟩ ⟨_, hO_ro, hF_zz⟩ ha_S ha_X ha_Y ha_Z (by omega) (by omega) (by omega)) (by omega) (Nat.zero_le _) (Nat.zero_le _) (Nat.le_of_ble_eq_true rfl) (fun r26 V26 h26 => ?_)
      obtain ⟨⟨y26, rfl, hl26, hh26, hP26_0⟩, hE26⟩ := h26
      have hE26 := hE26.symm
      subst hE26
      clear hl26 hh26
      have hz26 : jEq y26.toInt ((Y (n.toInt).toNat).toInt) := hP26_0
      clear hP26_0
      refine J_callS2 moX0_isEven jw_ml_X6_100 jw_st_X0_isEven dX6_turnBack_29 (w_X0_isEven_z (d - 1) _ y22 y26 (by omega)   (by (try simp only [hz22.eq, true_and, and_true]) <;> omega) (by (try simp only [hz22.eq, true_and, and_true]) <;> omega) (by (try simp only [hz26.eq, true_and, and_true]) <;> omega) (by (try simp only [hz26.eq, true_and, and_true]) <;> omega)) (by omega) (Nat.zero_le _) (Nat.zero_le _) (Nat.le_of_ble_eq_true rfl) (fun r29 V29 h29 => ?_)
      obtain ⟨⟨y29, rfl, hl29, hh29, hP29_0⟩, hE29⟩ := h29
      have hE29 := hE29.symm
      subst hE29
      try simp only [hz22.eq, hz26.eq] at hP29_0
      refine Jz_if_ne (tgt := 38) jEq.rf dX6_turnBack_32 (by decide) (fun c32 => ?_) (fun c32 => ?_)
      · exact False.elim (by omega)
      · refine Jz_bipush (-3) dX6_turnBack_35 (by decide) (fun y35 he35 => ?_)
        exact J_ret (r := some (.int _)) dX6_turnBack_37 ⟨rfl, _, rfl, rfl⟩ (⟨⟨_, rfl, (j_rng _).1, (j_rng _).2, (by (try simp only [he35.eq, true_and, and_true]) <;> omega)⟩, rfl⟩)
set_option maxRecDepth 100000 in
set_option maxHeartbeats 8000000 in
theorem w_X6_turnBack_ok {tS : jTS} (d : Nat) (V0 : jH) (a0 : Nat) (x1 : Int32) (k : Int32) (md : Nat) (tr : Nat) (f : Nat → Option Nat) (ro : Nat) (M : Int32) (g : Int32) (n : Int32) (s : Nat) (xx : Nat) (yy : Nat) (zz : Nat) (S : Nat → Int32) (X : Nat → Int32) (Y : Nat → Int32) (Z : Nat → Int32) (MT : Int32) (gT : Int32) (nT : Int32) (sT : Nat) (xxT : Nat) (yyT : Nat) (zzT : Nat) (ST : Nat → Int32) (XT : Nat → Int32) (YT : Nat → Int32) (ZT : Nat → Int32) (hd : 4 ≤ d) (hW : WT V0) (ha0 : jis V0 (.inr 4) a0) (hf_k : jfI V0 a0 4 1 k) (hr_md : jfR V0 a0 4 0 md) (hr_tr : jfR V0 a0 4 2 tr) (ha_f : V0 md = some (.inl (4, 16, .inr (.inr (.inr (.inr f)))))) (hf_M : jfI V0 ro 1 0 M) (hf_g : jfI V0 ro 1 5 g) (hf_n : jfI V0 ro 1 6 n) (hr_s : jfR V0 ro 1 1 s) (hr_xx : jfR V0 ro 1 2 xx) (hr_yy : jfR V0 ro 1 3 yy) (hr_zz : jfR V0 ro 1 4 zz) (ha_S : V0 s = some (.inl (6, 60, .inl S))) (ha_X : V0 xx = some (.inl (34, 61, .inl X))) (ha_Y : V0 yy = some (.inl (35, 61, .inl Y))) (ha_Z : V0 zz = some (.inl (36, 61, .inl Z))) (hm_ro : M.toInt = 60) (hn_ro : n.toInt ≤ 60) (hfo : f x1.toInt.toNat = some ro) (hf_MT : jfI V0 tr 1 0 MT) (hf_gT : jfI V0 tr 1 5 gT) (hf_nT : jfI V0 tr 1 6 nT) (hr_sT : jfR V0 tr 1 1 sT) (hr_xxT : jfR V0 tr 1 2 xxT) (hr_yyT : jfR V0 tr 1 3 yyT) (hr_zzT : jfR V0 tr 1 4 zzT) (ha_ST : V0 sT = some (.inl (6, 120, .inl ST))) (ha_XT : V0 xxT = some (.inl (34, 121, .inl XT))) (ha_YT : V0 yyT = some (.inl (35, 121, .inl YT))) (ha_ZT : V0 zzT = some (.inl (36, 121, .inl ZT))) (hm_tr : MT.toInt = 120) (hn_tr : nT.toInt ≤ 120) (hAB : ∀ b ∈ [ro, s, xx, yy, zz], b ∉ [tr, sT, xxT, yyT, zzT]) (hBA : ∀ b ∈ [tr, sT, xxT, yyT, zzT], b ∉ [ro, s, xx, yy, zz]) (hp0 : 0 ≤ x1.toInt) (hp1 : x1.toInt < k.toInt) (hp2 : 0 ≤ g.toInt) (hp3 : g.toInt ≤ 3) (hp4 : jrv g.toInt (fun q => (S q).toInt) n.toInt.toNat X Y Z) (hp5 : g.toInt = 2 → ((jPt g.toInt (fun q => (S q).toInt) n.toInt.toNat).1 + (jPt g.toInt (fun q => (S q).toInt) n.toInt.toNat).2.1) % 2 = 0) (hp6 : ∀ j : Nat, (j : Int) < n.toInt → 0 ≤ (S j).toInt ∧ (S j).toInt < jdir g.toInt) (hp7 : (XT 0).toInt = 0) (hp8 : (YT 0).toInt = 0) (hp9 : (ZT 0).toInt = 0) (hp10 : jav g.toInt (jTb g.toInt (fun q => (S q).toInt) n.toInt.toNat) n.toInt.toNat) : jTot tS mX6_turnBack d [.ref a0, .int x1] V0 0 0 (fun r V => (jPost [.inr 1, .inl 6, .inl 34, .inl 35, .inl 36] V0 (fun r _ => ∃ y : Int32, r = some (.int y) ∧ ((-2147483648) ≤ y.toInt) ∧ (y.toInt ≤ 2147483647) ∧ (y.toInt = n.toInt))) r V ∧ (∃ S2 X2 Y2 Z2 : Nat → Int32, jrw V ro s xx yy zz 60 g.toInt (n.toInt) S2 X2 Y2 Z2 ∧ (∀ j : Nat, (j : Int) < n.toInt → (S2 j).toInt = (jTb g.toInt (fun q => (S q).toInt) n.toInt.toNat) j) ∧ jrv g.toInt (jTb g.toInt (fun q => (S q).toInt) n.toInt.toNat) (n.toInt).toNat X2 Y2 Z2) ∧ (∃ (g2 n2 : Int) (S2 X2 Y2 Z2 : Nat → Int32), jrw V tr sT xxT yyT zzT 120 g2 n2 S2 X2 Y2 Z2 ∧ (X2 0).toInt = 0 ∧ (Y2 0).toInt = 0 ∧ (Z2 0).toInt = 0) ∧ jfp [ro, s, xx, yy, zz, tr, sT, xxT, yyT, zzT] V0 V) := by
  refine jTot.of_J [some (.ref a0), some (.int x1), none, none] moX6_turnBack (Nat.le_of_ble_eq_true rfl) rfl ?_
  have hrx1 := j_rng x1
  have he : jeff [.inr 1, .inl 6, .inl 34, .inl 35, .inl 36] V0 V0 := jeff.refl _ _
  have hfp : jfp [ro, s, xx, yy, zz, tr, sT, xxT, yyT, zzT] V0 V0 := jfp.rf
  obtain ⟨fs_a0, hO_a0, hK_a0⟩ := WT_obj hW id ha0
  have hF_k := hf_k.get hO_a0
  have hrk : 0 ≤ k.toInt ∧ k.toInt ≤ 16 := jok_rngI hK_a0 rfl hF_k
  have hF_md := hr_md.get hO_a0
  obtain ⟨w_md, hFq_md, b_md, hbq_md, hb_md⟩ := hK_a0.2 0 (.inr (some (.inl 4))) rfl
  cases hF_md.symm.trans (hFq_md.trans (congrArg some hbq_md))
  have hF_tr := hr_tr.get hO_a0
  obtain ⟨w_tr, hFq_tr, b_tr, hbq_tr, hb_tr⟩ := hK_a0.2 2 (.inr (some (.inr 1))) rfl
  cases hF_tr.symm.trans (hFq_tr.trans (congrArg some hbq_tr))
  have hb_ro : jis V0 (.inr 1) ro := by obtain ⟨q1, q2, q3⟩ := hf_M; exact ⟨_, q2, rfl⟩
  obtain ⟨fs_ro, hO_ro, hK_ro⟩ := WT_obj hW id hb_ro
  have hF_M := hf_M.get hO_ro
  have hrM : 0 ≤ M.toInt ∧ M.toInt ≤ 120 := jok_rngI hK_ro rfl hF_M
  have hF_g := hf_g.get hO_ro
  have hrg : (-2147483648) ≤ g.toInt ∧ g.toInt ≤ 2147483647 := jok_rngI hK_ro rfl hF_g
  have hF_n := hf_n.get hO_ro
  have hrn : 0 ≤ n.toInt ∧ n.toInt ≤ 120 := jok_rngI hK_ro rfl hF_n
  have hF_s := hr_s.get hO_ro
  have hb_s : jis V0 (.inl 6) s := ⟨_, ha_S, rfl⟩
  obtain ⟨hN_S, hv_S⟩ := WT_rngI (r := (-2147483648, 2147483647)) hW id rfl ha_S
  clear hN_S
  have hF_xx := hr_xx.get hO_ro
  have hb_xx : jis V0 (.inl 34) xx := ⟨_, ha_X, rfl⟩
  obtain ⟨hN_X, hv_X⟩ := WT_rngI (r := (-2147483648, 2147483647)) hW id rfl ha_X
  clear hN_X
  have hF_yy := hr_yy.get hO_ro
  have hb_yy : jis V0 (.inl 35) yy := ⟨_, ha_Y, rfl⟩
  obtain ⟨hN_Y, hv_Y⟩ := WT_rngI (r := (-2147483648, 2147483647)) hW id rfl ha_Y
  clear hN_Y
  have hF_zz := hr_zz.get hO_ro
  have hb_zz : jis V0 (.inl 36) zz := ⟨_, ha_Z, rfl⟩
  obtain ⟨hN_Z, hv_Z⟩ := WT_rngI (r := (-2147483648, 2147483647)) hW id rfl ha_Z
  clear hN_Z
  obtain ⟨fs_tr, hO_tr, hK_tr⟩ := WT_obj hW id hb_tr
  have hF_MT := hf_MT.get hO_tr
  have hrMT : 0 ≤ MT.toInt ∧ MT.toInt ≤ 120 := jok_rngI hK_tr rfl hF_MT
  have hF_gT := hf_gT.get hO_tr
  have hrgT : (-2147483648) ≤ gT.toInt ∧ gT.toInt ≤ 2147483647 := jok_rngI hK_tr rfl hF_gT
  have hF_nT := hf_nT.get hO_tr
  have hrnT : 0 ≤ nT.toInt ∧ nT.toInt ≤ 120 := jok_rngI hK_tr rfl hF_nT
  have hF_sT := hr_sT.get hO_tr
  have hb_sT : jis V0 (.inl 6) sT := ⟨_, ha_ST, rfl⟩
  obtain ⟨hN_ST, hv_ST⟩ := WT_rngI (r := (-2147483648, 2147483647)) hW id rfl ha_ST
  clear hN_ST
  have hF_xxT := hr_xxT.get hO_tr
  have hb_xxT : jis V0 (.inl 34) xxT := ⟨_, ha_XT, rfl⟩
  obtain ⟨hN_XT, hv_XT⟩ := WT_rngI (r := (-2147483648, 2147483647)) hW id rfl ha_XT
  clear hN_XT
  have hF_yyT := hr_yyT.get hO_tr
  have hb_yyT : jis V0 (.inl 35) yyT := ⟨_, ha_YT, rfl⟩
  obtain ⟨hN_YT, hv_YT⟩ := WT_rngI (r := (-2147483648, 2147483647)) hW id rfl ha_YT
  clear hN_YT
  have hF_zzT := hr_zzT.get hO_tr
  have hb_zzT : jis V0 (.inl 36) zzT := ⟨_, ha_ZT, rfl⟩
  obtain ⟨hN_ZT, hv_ZT⟩ := WT_rngI (r := (-2147483648, 2147483647)) hW id rfl ha_ZT
  clear hN_ZT
  refine J_aload_n dX6_turnBack_0 rfl ?_
  refine J_iload_n dX6_turnBack_1 rfl ?_
  have hbx := hp4.b n.toInt.toNat (Nat.le_refl _)
  have hpq := hp4 n.toInt.toNat (Nat.le_refl _)
  refine Jw_callV1 (q9 := (RX6, TX6, 7)) moX6_rowOf jw_ml_X6_55 jw_im_X6_rowOf jw_se_X6_rowOf ha0 rfl rfl dX6_turnBack_2 (w_X6_rowOf_in (d - 1) _ a0 x1 hO_a0 hF_md hF_k ha_f (by omega) (by omega) (by omega) hfo) (by omega) (Nat.zero_le _) (Nat.zero_le _) (Nat.le_of_ble_eq_true rfl) (fun r2 V2 h2 => ?_)
  obtain ⟨rfl, hE2⟩ := h2
  have hE2 := hE2.symm
  subst hE2
  · refine J_astore_n dX6_turnBack_5 rfl (by decide) ?_
    refine J_aload_n dX6_turnBack_6 rfl ?_
    refine J_ifnonnull (tgt := 13) dX6_turnBack_7 (by decide) ?_
    refine J_aload_n dX6_turnBack_13 rfl ?_
    refine J_get jf_X6_59 dX6_turnBack_14 hO_ro hF_g ?_
    refine Jz_iconst 2 dX6_turnBack_17 (by decide) (fun y17 he17 => ?_)
    refine Jz_icmp_ne (tgt := 38) jEq.rf he17 dX6_turnBack_18 (by decide) (fun c18 => ?_) (fun c18 => ?_)
    · refine J_aload_n dX6_turnBack_38 rfl ?_
      refine J_get jf_X6_22 dX6_turnBack_39 hO_a0 hF_tr ?_
      refine J_aload_n dX6_turnBack_42 rfl ?_
      refine J_get jf_X6_59 dX6_turnBack_43 hO_ro hF_g ?_
      have hz0 := hp7
      have hz1 := hp8
      have hz2 := hp9
      have hdc := jdir_cases g.toInt
      refine Jw_callV1 (q9 := (RX3, TX3, 7)) moX3_begin jw_ml_X6_52 jw_im_X3_begin jw_se_X3_begin hb_tr rfl rfl dX6_turnBack_46 (w_X3_begin_z (d - 1) _ tr g MT (by omega) hW  hb_tr ⟨_, hO_tr, hF_MT⟩) (by omega) (Nat.zero_le _) (Nat.zero_le _) (Nat.le_of_ble_eq_true rfl) (fun r46 V46 h46 => ?_)
      obtain ⟨h46, hX46_0, ⟨fv46_0, hfv46_0, hfp46_0⟩, ⟨fv46_1, hfv46_1, hfp46_1⟩, ⟨fv46_2, hfv46_2, hfp46_2⟩⟩ := h46
      obtain ⟨hW, hx46, hr46⟩ := h46
      have he := he.trans (hx46.sub (jsub_of rfl))
      have hfp := hfp.trans (hX46_0.sub (fun b hb => by simp only [List.mem_cons, List.not_mem_nil, or_false] at hb ⊢; omega))
      have ha0 := ha0.mono hx46.1
      have hb_md := hb_md.mono hx46.1
      have hb_tr := hb_tr.mono hx46.1
      have hb_ro := hb_ro.mono hx46.1
      have hb_s := hb_s.mono hx46.1
      have hb_xx := hb_xx.mono hx46.1
      have hb_yy := hb_yy.mono hx46.1
      have hb_zz := hb_zz.mono hx46.1
      have hb_sT := hb_sT.mono hx46.1
      have hb_xxT := hb_xxT.mono hx46.1
      have hb_yyT := hb_yyT.mono hx46.1
      have hb_zzT := hb_zzT.mono hx46.1
      have hO_a0 := hx46.2 _ _ hO_a0 (jnot_of rfl)
      have hK_a0 := hK_a0.mono hx46.1
      have hO_ro := (hX46_0 ro (fun q => hAB ro List.mem_cons_self (List.mem_cons.mpr (Or.inl (List.mem_singleton.mp q))))).trans hO_ro
      have hK_ro := hK_ro.mono hx46.1
      obtain ⟨fs46tr, hOfs46tr, hRfs46tr⟩ := hx46.1.keep hO_tr
      have hKfs46tr : jokO _ (jFs 1) fs46tr := hW _ _ id hOfs46tr
      have hFfs46tr_1 := hRfs46tr _ _ hF_sT
      have hFfs46tr_2 := hRfs46tr _ _ hF_xxT
      have hFfs46tr_3 := hRfs46tr _ _ hF_yyT
      have hFfs46tr_4 := hRfs46tr _ _ hF_zzT
      have ha_S := (hX46_0 s (fun q => hAB s (List.mem_cons_of_mem _ List.mem_cons_self) (List.mem_cons.mpr (Or.inl (List.mem_singleton.mp q))))).trans ha_S
      have ha_X := (hX46_0 xx (fun q => hAB xx (List.mem_cons_of_mem _ (List.mem_cons_of_mem _ List.mem_cons_self)) (List.mem_cons.mpr (Or.inl (List.mem_singleton.mp q))))).trans ha_X
      have ha_Y := (hX46_0 yy (fun q => hAB yy (List.mem_cons_of_mem _ (List.mem_cons_of_mem _ (List.mem_cons_of_mem _ List.mem_cons_self))) (List.mem_cons.mpr (Or.inl (List.mem_singleton.mp q))))).trans ha_Y
      have ha_Z := (hX46_0 zz (fun q => hAB zz (List.mem_cons_of_mem _ (List.mem_cons_of_mem _ (List.mem_cons_of_mem _ (List.mem_cons_of_mem _ List.mem_cons_self)))) (List.mem_cons.mpr (Or.inl (List.mem_singleton.mp q))))).trans ha_Z
      have ha_ST := hx46.2 _ _ ha_ST (jnot_of rfl)
      have ha_XT := hx46.2 _ _ ha_XT (jnot_of rfl)
      have ha_YT := hx46.2 _ _ ha_YT (jnot_of rfl)
      have ha_ZT := hx46.2 _ _ ha_ZT (jnot_of rfl)
      cases hr46
      have hFv46_0 := hfv46_0.get hOfs46tr
      have hsb46_0 : MT = fv46_0 := (jI_inj.mp hfp46_0).symm
      subst hsb46_0
      have hFv46_1 := hfv46_1.get hOfs46tr
      have hsb46_1 : g = fv46_1 := (jI_inj.mp hfp46_1).symm
      subst hsb46_1
      have hFv46_2 := hfv46_2.get hOfs46tr
      have hzf46_2 : jEq fv46_2.toInt (0) := hfp46_2
      clear hfp46_2
      refine J_aload_n dX6_turnBack_49 rfl ?_
      refine J_get jf_X6_69 dX6_turnBack_50 hO_ro hF_n ?_
      refine Jz_iconst 1 dX6_turnBack_53 (by decide) (fun y53 he53 => ?_)
      refine Jz_isub jEq.rf he53 dX6_turnBack_54 (by omega) (by omega) (fun y54 he54 => ?_)
      refine J_istore_n dX6_turnBack_55 rfl (by decide) ?_
      have L56 : ∀ (N : Nat) (V : jH) (i3n56 : Int32) (gs56tr : List Value) (g6n56 : Int32) (F6n56 : Nat → Int32) (F34n56 : Nat → Int32) (F35n56 : Nat → Int32) (F36n56 : Nat → Int32), WT V → jeff [.inr 1, .inl 6, .inl 34, .inl 35, .inl 36] V0 V → (jis V (.inr 4) a0) → (jis V (.inl 4) md) → (jis V (.inr 1) tr) → (jis V (.inr 1) ro) → (jis V (.inl 6) s) → (jis V (.inl 34) xx) → (jis V (.inl 35) yy) → (jis V (.inl 36) zz) → (jis V (.inl 6) sT) → (jis V (.inl 34) xxT) → (jis V (.inl 35) yyT) → (jis V (.inl 36) zzT) → (jfp [ro, s, xx, yy, zz, tr, sT, xxT, yyT, zzT] V0 V) → (V a0 = some (.inr (4, fs_a0))) → (jokO V (jFs 4) fs_a0) → (V ro = some (.inr (1, fs_ro))) → (jokO V (jFs 1) fs_ro) → (V tr = some (.inr (1, gs56tr))) → (gs56tr[1]? = some (.ref sT)) → (gs56tr[2]? = some (.ref xxT)) → (gs56tr[3]? = some (.ref yyT)) → (gs56tr[4]? = some (.ref zzT)) → (gs56tr[0]? = some (.int MT)) → (gs56tr[5]? = some (.int g)) → (gs56tr[6]? = some (.int g6n56)) → (V sT = some (.inl (6, 120, .inl F6n56))) → (V xxT = some (.inl (34, 121, .inl F34n56))) → (V yyT = some (.inl (35, 121, .inl F35n56))) → (V zzT = some (.inl (36, 121, .inl F36n56))) → (V s = some (.inl (6, 60, .inl S))) → (V xx = some (.inl (34, 61, .inl X))) → (V yy = some (.inl (35, 61, .inl Y))) → (V zz = some (.inl (36, 61, .inl Z))) → (-1 ≤ i3n56.toInt ∧ i3n56.toInt ≤ n.toInt - 1) → (g6n56.toInt = n.toInt - 1 - i3n56.toInt) → (∀ j : Nat, (j : Int) < g6n56.toInt → (F6n56 j).toInt = (jTb g.toInt (fun q => (S q).toInt) n.toInt.toNat) j) → (jrv g.toInt (jTb g.toInt (fun q => (S q).toInt) n.toInt.toNat) g6n56.toInt.toNat F34n56 F35n56 F36n56) → (jav g.toInt (jTb g.toInt (fun q => (S q).toInt) n.toInt.toNat) g6n56.toInt.toNat) → (i3n56.toInt + 2).toNat < N → J tS mX6_turnBack d 56 [some (.ref a0), some (.int x1), some (.ref ro), some (.int i3n56)] [] V 0 0 (fun r V => (jPost [.inr 1, .inl 6, .inl 34, .inl 35, .inl 36] V0 (fun r _ => ∃ y : Int32, r = some (.int y) ∧ ((-2147483648) ≤ y.toInt) ∧ (y.toInt ≤ 2147483647) ∧ (y.toInt = n.toInt))) r V ∧ (∃ S2 X2 Y2 Z2 : Nat → Int32, jrw V ro s xx yy zz 60 g.toInt (n.toInt) S2 X2 Y2 Z2 ∧ (∀ j : Nat, (j : Int) < n.toInt → (S2 j).toInt = (jTb g.toInt (fun q => (S q).toInt) n.toInt.toNat) j) ∧ jrv g.toInt (jTb g.toInt (fun q => (S q).toInt) n.toInt.toNat) (n.toInt).toNat X2 Y2 Z2) ∧ (∃ (g2 n2 : Int) (S2 X2 Y2 Z2 : Nat → Int32), jrw V tr sT xxT yyT zzT 120 g2 n2 S2 X2 Y2 Z2 ∧ (X2 0).toInt = 0 ∧ (Y2 0).toInt = 0 ∧ (Z2 0).toInt = 0) ∧ jfp [ro, s, xx, yy, zz, tr, sT, xxT, yyT, zzT] V0 V) := by
        intro N
        induction N with
        | zero => intro V i3n56 gs56tr g6n56 F6n56 F34n56 F35n56 F36n56 hW he ha0 hb_md hb_tr hb_ro hb_s hb_xx hb_yy hb_zz hb_sT hb_xxT hb_yyT hb_zzT hfp hO_a0 hK_a0 hO_ro hK_ro hOgs56tr hFgs56tr_1 hFgs56tr_2 hFgs56tr_3 hFgs56tr_4 hFgs56tr_0 hFgs56tr_5 hFgs56tr_6 hAF6n56 hAF34n56 hAF35n56 hAF36n56 ha_S ha_X ha_Y ha_Z hi htn hts hjv hav hm; exact absurd hm (Nat.not_lt_zero _)
        | succ N ih =>
          intro V i3n56 gs56tr g6n56 F6n56 F34n56 F35n56 F36n56 hW he ha0 hb_md hb_tr hb_ro hb_s hb_xx hb_yy hb_zz hb_sT hb_xxT hb_yyT hb_zzT hfp hO_a0 hK_a0 hO_ro hK_ro hOgs56tr hFgs56tr_1 hFgs56tr_2 hFgs56tr_3 hFgs56tr_4 hFgs56tr_0 hFgs56tr_5 hFgs56tr_6 hAF6n56 hAF34n56 hAF35n56 hAF36n56 ha_S ha_X ha_Y ha_Z hi htn hts hjv hav hm
          have ih56 := ih
          have hri3 := j_rng i3n56
          have hKgs56tr : jokO V (jFs 1) gs56tr := hW _ _ id hOgs56tr
          have hrgg6n56 : 0 ≤ g6n56.toInt ∧ g6n56.toInt ≤ 120 := jok_rngI hKgs56tr rfl hFgs56tr_6
          obtain ⟨hNF6n56, hvF6n56⟩ := WT_rngI (r := ((-2147483648), 2147483647)) hW id rfl hAF6n56
          clear hNF6n56
          obtain ⟨hNF34n56, hvF34n56⟩ := WT_rngI (r := ((-2147483648), 2147483647)) hW id rfl hAF34n56
          clear hNF34n56
          obtain ⟨hNF35n56, hvF35n56⟩ := WT_rngI (r := ((-2147483648), 2147483647)) hW id rfl hAF35n56
          clear hNF35n56
          obtain ⟨hNF36n56, hvF36n56⟩ := WT_rngI (r := ((-2147483648), 2147483647)) hW id rfl hAF36n56
          clear hNF36n56
          refine J_iload_n dX6_turnBack_56 rfl ?_
          refine Jz_if_lt (tgt := 91) jEq.rf dX6_turnBack_57 (by decide) (fun c57 => ?_) (fun c57 => ?_)
          · refine J_aload_n dX6_turnBack_91 rfl ?_
            refine J_aload_n dX6_turnBack_92 rfl ?_
            refine J_get jf_X6_22 dX6_turnBack_93 hO_a0 hF_tr ?_
            have hfin : g6n56.toInt = n.toInt := by omega
            refine Jw_callV1 (q9 := (RX3, TX3, 7)) moX3_become jw_ml_X6_89 jw_im_X3_become jw_se_X3_become hb_ro rfl rfl dX6_turnBack_96 (w_X3_become_z (d - 1) _ ro tr M g g6n56 s xx yy zz sT xxT yyT zzT S X Y Z F6n56 F34n56 F35n56 F36n56 (by omega) hW  hb_ro hb_tr ⟨_, hO_ro, hF_M⟩ ⟨_, hOgs56tr, hFgs56tr_5⟩ ⟨_, hOgs56tr, hFgs56tr_6⟩ ⟨_, hO_ro, hF_s⟩ ⟨_, hO_ro, hF_xx⟩ ⟨_, hO_ro, hF_yy⟩ ⟨_, hO_ro, hF_zz⟩ ⟨_, hOgs56tr, hFgs56tr_1⟩ ⟨_, hOgs56tr, hFgs56tr_2⟩ ⟨_, hOgs56tr, hFgs56tr_3⟩ ⟨_, hOgs56tr, hFgs56tr_4⟩ (fun e => hBA tr List.mem_cons_self (e ▸ List.mem_cons_self)) (fun e => hBA sT (List.mem_cons_of_mem _ List.mem_cons_self) (e ▸ (List.mem_cons_of_mem _ List.mem_cons_self))) (fun e => hBA xxT (List.mem_cons_of_mem _ (List.mem_cons_of_mem _ List.mem_cons_self)) (e ▸ (List.mem_cons_of_mem _ (List.mem_cons_of_mem _ List.mem_cons_self)))) (fun e => hBA yyT (List.mem_cons_of_mem _ (List.mem_cons_of_mem _ (List.mem_cons_of_mem _ List.mem_cons_self))) (e ▸ (List.mem_cons_of_mem _ (List.mem_cons_of_mem _ (List.mem_cons_of_mem _ List.mem_cons_self))))) (fun e => hBA zzT (List.mem_cons_of_mem _ (List.mem_cons_of_mem _ (List.mem_cons_of_mem _ (List.mem_cons_of_mem _ List.mem_cons_self)))) (e ▸ (List.mem_cons_of_mem _ (List.mem_cons_of_mem _ (List.mem_cons_of_mem _ (List.mem_cons_of_mem _ List.mem_cons_self)))))) ha_S ha_X ha_Y ha_Z hAF6n56 hAF34n56 hAF35n56 hAF36n56 (by omega) (by omega) (by omega) (by omega) (by omega)) (by omega) (Nat.zero_le _) (Nat.zero_le _) (Nat.le_of_ble_eq_true rfl) (fun r96 V96 h96 => ?_)
            obtain ⟨h96, hX96_0, hX96_1, hX96_2, hX96_3, hX96_4, ⟨fv96_0, hfv96_0, hfp96_0⟩, ⟨fv96_1, hfv96_1, hfp96_1⟩, ⟨fv96_2, hfv96_2, hfp96_2⟩⟩ := h96
            obtain ⟨hW, hx96, hr96⟩ := h96
            have he := he.trans (hx96.sub (jsub_of rfl))
            have hfp := hfp.trans (hX96_4.sub (fun b hb => by simp only [List.mem_cons, List.not_mem_nil, or_false] at hb ⊢; omega))
            have ha0 := ha0.mono hx96.1
            have hb_md := hb_md.mono hx96.1
            have hb_tr := hb_tr.mono hx96.1
            have hb_ro := hb_ro.mono hx96.1
            have hb_s := hb_s.mono hx96.1
            have hb_xx := hb_xx.mono hx96.1
            have hb_yy := hb_yy.mono hx96.1
            have hb_zz := hb_zz.mono hx96.1
            have hb_sT := hb_sT.mono hx96.1
            have hb_xxT := hb_xxT.mono hx96.1
            have hb_yyT := hb_yyT.mono hx96.1
            have hb_zzT := hb_zzT.mono hx96.1
            have hO_a0 := hx96.2 _ _ hO_a0 (jnot_of rfl)
            have hK_a0 := hK_a0.mono hx96.1
            obtain ⟨fs96ro, hOfs96ro, hRfs96ro⟩ := hx96.1.keep hO_ro
            have hKfs96ro : jokO _ (jFs 1) fs96ro := hW _ _ id hOfs96ro
            have hFfs96ro_1 := hRfs96ro _ _ hF_s
            have hFfs96ro_2 := hRfs96ro _ _ hF_xx
            have hFfs96ro_3 := hRfs96ro _ _ hF_yy
            have hFfs96ro_4 := hRfs96ro _ _ hF_zz
            have hOgs56tr := (hX96_4 tr (hBA tr List.mem_cons_self)).trans hOgs56tr
            have hKgs56tr := hKgs56tr.mono hx96.1
            have hAF6n56 := (hX96_4 sT (hBA sT (List.mem_cons_of_mem _ List.mem_cons_self))).trans hAF6n56
            have hAF34n56 := (hX96_4 xxT (hBA xxT (List.mem_cons_of_mem _ (List.mem_cons_of_mem _ List.mem_cons_self)))).trans hAF34n56
            have hAF35n56 := (hX96_4 yyT (hBA yyT (List.mem_cons_of_mem _ (List.mem_cons_of_mem _ (List.mem_cons_of_mem _ List.mem_cons_self))))).trans hAF35n56
            have hAF36n56 := (hX96_4 zzT (hBA zzT (List.mem_cons_of_mem _ (List.mem_cons_of_mem _ (List.mem_cons_of_mem _ (List.mem_cons_of_mem _ List.mem_cons_self)))))).trans hAF36n56
            cases hr96
            have hFv96_0 := hfv96_0.get hOfs96ro
            have hsb96_0 : M = fv96_0 := (jI_inj.mp hfp96_0).symm
            subst hsb96_0
            have hFv96_1 := hfv96_1.get hOfs96ro
            have hsb96_1 : g = fv96_1 := (jI_inj.mp hfp96_1).symm
            subst hsb96_1
            have hFv96_2 := hfv96_2.get hOfs96ro
            have hsb96_2 : g6n56 = fv96_2 := (jI_inj.mp hfp96_2).symm
            subst hsb96_2
            obtain ⟨S96, hS96, hSe96⟩ := hX96_0
            obtain ⟨X96, hXa96, hXe96⟩ := hX96_1
            obtain ⟨Y96, hYa96, hYe96⟩ := hX96_2
            obtain ⟨Z96, hZa96, hZe96⟩ := hX96_3
            obtain ⟨hN_S96, hv_S96⟩ := WT_rngI (r := ((-2147483648), 2147483647)) hW id rfl hS96
            clear hN_S96
            obtain ⟨hN_X96, hv_X96⟩ := WT_rngI (r := ((-2147483648), 2147483647)) hW id rfl hXa96
            clear hN_X96
            obtain ⟨hN_Y96, hv_Y96⟩ := WT_rngI (r := ((-2147483648), 2147483647)) hW id rfl hYa96
            clear hN_Y96
            obtain ⟨hN_Z96, hv_Z96⟩ := WT_rngI (r := ((-2147483648), 2147483647)) hW id rfl hZa96
            clear hN_Z96
            refine J_aload_n dX6_turnBack_99 rfl ?_
            refine J_get jf_X6_69 dX6_turnBack_100 hOfs96ro hFv96_2 ?_
            exact J_ret (r := some (.int _)) dX6_turnBack_103 ⟨rfl, _, rfl, rfl⟩ (⟨⟨hW, he, ⟨_, rfl, (j_rng _).1, (j_rng _).2, (by omega)⟩⟩, ⟨S96, X96, Y96, Z96, ⟨⟨_, ⟨_, hOfs96ro, hFv96_0⟩, hm_ro⟩, ⟨_, ⟨_, hOfs96ro, hFv96_1⟩, rfl⟩, ⟨_, ⟨_, hOfs96ro, hFv96_2⟩, hfin⟩, ⟨_, hOfs96ro, hFfs96ro_1⟩, ⟨_, hOfs96ro, hFfs96ro_2⟩, ⟨_, hOfs96ro, hFfs96ro_3⟩, ⟨_, hOfs96ro, hFfs96ro_4⟩, hS96, hXa96, hYa96, hZa96⟩, (fun j hj => by rw [hSe96 j (by omega)]; exact hts j (by omega)), (by intro i hi; rw [hXe96 i (by omega), hYe96 i (by omega), hZe96 i (by omega)]; exact hjv i (by omega))⟩, ⟨_, _, _, _, _, _, ⟨⟨_, ⟨_, hOgs56tr, hFgs56tr_0⟩, hm_tr⟩, ⟨_, ⟨_, hOgs56tr, hFgs56tr_5⟩, rfl⟩, ⟨_, ⟨_, hOgs56tr, hFgs56tr_6⟩, rfl⟩, ⟨_, hOgs56tr, hFgs56tr_1⟩, ⟨_, hOgs56tr, hFgs56tr_2⟩, ⟨_, hOgs56tr, hFgs56tr_3⟩, ⟨_, hOgs56tr, hFgs56tr_4⟩, hAF6n56, hAF34n56, hAF35n56, hAF36n56⟩, (hjv 0 (Nat.zero_le _))⟩, hfp⟩)
          · refine J_aload_n dX6_turnBack_60 rfl ?_
            refine J_get jf_X6_22 dX6_turnBack_61 hO_a0 hF_tr ?_
            refine J_aload_n dX6_turnBack_64 rfl ?_
            refine J_get jf_X6_59 dX6_turnBack_65 hO_ro hF_g ?_
            refine J_aload_n dX6_turnBack_68 rfl ?_
            refine J_iload_n dX6_turnBack_69 rfl ?_
            refine Jw_callV1 (q9 := (RX3, TX3, 7)) moX3_direction jw_ml_X6_81 jw_im_X3_direction jw_se_X3_direction hb_ro rfl rfl dX6_turnBack_70 (w_X3_direction_z (d - 1) _ ro i3n56 s S (by omega) hW  hb_ro ⟨_, hO_ro, hF_s⟩ ha_S (by omega) (by omega) (by omega)) (by omega) (Nat.zero_le _) (Nat.zero_le _) (Nat.le_of_ble_eq_true rfl) (fun r70 V70 h70 => ?_)
            obtain ⟨⟨y70, rfl, hl70, hh70, hP70_0⟩, hE70⟩ := h70
            have hE70 := hE70.symm
            subst hE70
            clear hl70 hh70
            have hz70 : jEq y70.toInt ((S (i3n56.toInt).toNat).toInt) := hP70_0
            clear hP70_0
            have hsd := hp6 i3n56.toInt.toNat (by omega)
            refine J_callS2 moX0_opposite jw_ml_X6_103 jw_st_X0_opposite dX6_turnBack_73 (w_X0_opposite_z (d - 1) _ g y70 (by omega)   (by omega) (by omega) (by (try simp only [hz70.eq, true_and, and_true]) <;> omega) (by (try simp only [hz70.eq, true_and, and_true]) <;> omega)) (by omega) (Nat.zero_le _) (Nat.zero_le _) (Nat.le_of_ble_eq_true rfl) (fun r73 V73 h73 => ?_)
            obtain ⟨⟨y73, rfl, hl73, hh73, hP73_0⟩, hE73⟩ := h73
            have hE73 := hE73.symm
            subst hE73
            clear hl73 hh73
            try simp only [hz70.eq] at hP73_0
            have hz73 : jEq y73.toInt (jopp (g.toInt) ((S (i3n56.toInt).toNat).toInt)) := hP73_0
            clear hP73_0
            have hob := jopp_b (g := g.toInt) (d := (S i3n56.toInt.toNat).toInt) (by omega) (by omega)
            have htp : (jTb g.toInt (fun q => (S q).toInt) n.toInt.toNat) g6n56.toInt.toNat = y73.toInt := (by unfold jTb; (show jopp _ (S _).toInt = _); rw [show n.toInt.toNat - 1 - g6n56.toInt.toNat = i3n56.toInt.toNat by omega]; exact (hz73.eq).symm)
            have hbx := hjv.b g6n56.toInt.toNat (Nat.le_refl _)
            have hcc : jav g.toInt (jTb g.toInt (fun q => (S q).toInt) n.toInt.toNat) (g6n56.toInt.toNat + 1) := hp10.mono (by omega)
            refine Jw_callV1 (q9 := (RX3, TX3, 7)) moX3_lay jw_ml_X6_72 jw_im_X3_lay jw_se_X3_lay hb_tr rfl rfl dX6_turnBack_76 (w_X3_lay_yes (d - 1) _ tr y73 MT g g6n56 sT xxT yyT zzT F6n56 F34n56 F35n56 F36n56 (by omega) hW  hb_tr ⟨_, hOgs56tr, hFgs56tr_0⟩ ⟨_, hOgs56tr, hFgs56tr_5⟩ ⟨_, hOgs56tr, hFgs56tr_6⟩ ⟨_, hOgs56tr, hFgs56tr_1⟩ ⟨_, hOgs56tr, hFgs56tr_2⟩ ⟨_, hOgs56tr, hFgs56tr_3⟩ ⟨_, hOgs56tr, hFgs56tr_4⟩ hAF6n56 hAF34n56 hAF35n56 hAF36n56 (by omega) (by omega) (by omega) (by omega) (by omega) (by first | omega | (simp only [hz73.eq]; omega)) (by first | omega | (simp only [hz73.eq]; omega)) (by omega) (by omega) (by omega) (by omega) (by omega) (by omega) (by omega) (fun j hj q => (jav_succ.mp hcc).2 j (by omega) ((hjv.next (by omega)).mpr (by rw [htp]; exact q)))) (by omega) (Nat.zero_le _) (Nat.zero_le _) (Nat.le_of_ble_eq_true rfl) (fun r76 V76 h76 => ?_)
            obtain ⟨h76, hX76_0, hX76_1, hX76_2, hX76_3, hX76_4, ⟨fv76_0, hfv76_0, hfp76_0⟩, ⟨fv76_1, hfv76_1, hfp76_1⟩, ⟨fv76_2, hfv76_2, hfp76_2⟩⟩ := h76
            obtain ⟨hW, hx76, hr76⟩ := h76
            have he := he.trans (hx76.sub (jsub_of rfl))
            have hfp := hfp.trans (hX76_4.sub (fun b hb => by simp only [List.mem_cons, List.not_mem_nil, or_false] at hb ⊢; omega))
            have ha0 := ha0.mono hx76.1
            have hb_md := hb_md.mono hx76.1
            have hb_tr := hb_tr.mono hx76.1
            have hb_ro := hb_ro.mono hx76.1
            have hb_s := hb_s.mono hx76.1
            have hb_xx := hb_xx.mono hx76.1
            have hb_yy := hb_yy.mono hx76.1
            have hb_zz := hb_zz.mono hx76.1
            have hb_sT := hb_sT.mono hx76.1
            have hb_xxT := hb_xxT.mono hx76.1
            have hb_yyT := hb_yyT.mono hx76.1
            have hb_zzT := hb_zzT.mono hx76.1
            have hO_a0 := hx76.2 _ _ hO_a0 (jnot_of rfl)
            have hK_a0 := hK_a0.mono hx76.1
            have hO_ro := (hX76_4 ro (hAB ro List.mem_cons_self)).trans hO_ro
            have hK_ro := hK_ro.mono hx76.1
            obtain ⟨fs76tr, hOfs76tr, hRfs76tr⟩ := hx76.1.keep hOgs56tr
            have hKfs76tr : jokO _ (jFs 1) fs76tr := hW _ _ id hOfs76tr
            have hFfs76tr_1 := hRfs76tr _ _ hFgs56tr_1
            have hFfs76tr_2 := hRfs76tr _ _ hFgs56tr_2
            have hFfs76tr_3 := hRfs76tr _ _ hFgs56tr_3
            have hFfs76tr_4 := hRfs76tr _ _ hFgs56tr_4
            have ha_S := (hX76_4 s (hAB s (List.mem_cons_of_mem _ List.mem_cons_self))).trans ha_S
            have ha_X := (hX76_4 xx (hAB xx (List.mem_cons_of_mem _ (List.mem_cons_of_mem _ List.mem_cons_self)))).trans ha_X
            have ha_Y := (hX76_4 yy (hAB yy (List.mem_cons_of_mem _ (List.mem_cons_of_mem _ (List.mem_cons_of_mem _ List.mem_cons_self))))).trans ha_Y
            have ha_Z := (hX76_4 zz (hAB zz (List.mem_cons_of_mem _ (List.mem_cons_of_mem _ (List.mem_cons_of_mem _ (List.mem_cons_of_mem _ List.mem_cons_self)))))).trans ha_Z
            obtain ⟨y76, rfl, hl76, hh76, hP76_0⟩ := hr76
            try simp only [hz73.eq] at hP76_0
            have hFv76_0 := hfv76_0.get hOfs76tr
            try simp only [hz73.eq] at hfp76_0
            have hzf76_0 : jEq fv76_0.toInt ((g6n56.toInt) + 1) := hfp76_0
            clear hfp76_0
            have hFv76_1 := hfv76_1.get hOfs76tr
            try simp only [hz73.eq] at hfp76_1
            have hsb76_1 : MT = fv76_1 := (jI_inj.mp hfp76_1).symm
            subst hsb76_1
            have hFv76_2 := hfv76_2.get hOfs76tr
            try simp only [hz73.eq] at hfp76_2
            have hsb76_2 : g = fv76_2 := (jI_inj.mp hfp76_2).symm
            subst hsb76_2
            obtain ⟨S76, hS76, hSn76, hSo76⟩ := hX76_0
            obtain ⟨X76, hXa76, hXn76, hXo76⟩ := hX76_1
            obtain ⟨Y76, hYa76, hYn76, hYo76⟩ := hX76_2
            obtain ⟨Z76, hZa76, hZn76, hZo76⟩ := hX76_3
            obtain ⟨hN_S76, hv_S76⟩ := WT_rngI (r := ((-2147483648), 2147483647)) hW id rfl hS76
            clear hN_S76
            obtain ⟨hN_X76, hv_X76⟩ := WT_rngI (r := ((-2147483648), 2147483647)) hW id rfl hXa76
            clear hN_X76
            obtain ⟨hN_Y76, hv_Y76⟩ := WT_rngI (r := ((-2147483648), 2147483647)) hW id rfl hYa76
            clear hN_Y76
            obtain ⟨hN_Z76, hv_Z76⟩ := WT_rngI (r := ((-2147483648), 2147483647)) hW id rfl hZa76
            clear hN_Z76
            refine Jz_if_ne (tgt := 85) jEq.rf dX6_turnBack_79 (by decide) (fun c79 => ?_) (fun c79 => ?_)
            · refine Jz_iinc (-1) dX6_turnBack_85 rfl rfl (by decide) jEq.rf (by decide) (by omega) (by omega) (fun y85 he85 => ?_)
              refine J_goto (tgt := 56) dX6_turnBack_88 (by decide) ?_
              refine J.mask [true, true, true, true] ?_
              exact ih56 _ y85 fs76tr fv76_0 S76 X76 Y76 Z76 hW he ha0 hb_md hb_tr hb_ro hb_s hb_xx hb_yy hb_zz hb_sT hb_xxT hb_yyT hb_zzT hfp hO_a0 hK_a0 hO_ro hK_ro hOfs76tr hFfs76tr_1 hFfs76tr_2 hFfs76tr_3 hFfs76tr_4 hFv76_1 hFv76_2 hFv76_0 hS76 hXa76 hYa76 hZa76 ha_S ha_X ha_Y ha_Z (by (try simp only [he85.eq, hzf76_0.eq, true_and, and_true]) <;> omega) (by (try simp only [he85.eq, hzf76_0.eq, true_and, and_true]) <;> omega) (fun j hj => by rw [hzf76_0.eq] at hj; by_cases c : (j : Int) = g6n56.toInt; (have e : j = g6n56.toInt.toNat := by omega); subst e; rw [hSn76, htp]; rw [hSo76 j (by omega)]; exact hts j (by omega)) (by rw [hzf76_0.eq, show (g6n56.toInt + 1).toNat = g6n56.toInt.toNat + 1 by omega]; exact hjv.lay (by rw [hXn76, htp]) (by rw [hYn76, htp]) (by rw [hZn76, htp]) hXo76 hYo76 hZo76) (by rw [hzf76_0.eq, show (g6n56.toInt + 1).toNat = g6n56.toInt.toNat + 1 by omega]; exact hcc) (by (try simp only [he85.eq, hzf76_0.eq, true_and, and_true]) <;> omega)
            · exact False.elim (by omega)
      refine J.mask [true, true, true, true] ?_
      exact L56 _ _ y54 fs46tr fv46_2 ST XT YT ZT hW he ha0 hb_md hb_tr hb_ro hb_s hb_xx hb_yy hb_zz hb_sT hb_xxT hb_yyT hb_zzT hfp hO_a0 hK_a0 hO_ro hK_ro hOfs46tr hFfs46tr_1 hFfs46tr_2 hFfs46tr_3 hFfs46tr_4 hFv46_0 hFv46_1 hFv46_2 ha_ST ha_XT ha_YT ha_ZT ha_S ha_X ha_Y ha_Z (by (try simp only [he54.eq, hzf46_2.eq, true_and, and_true]) <;> omega) (by (try simp only [he54.eq, hzf46_2.eq, true_and, and_true]) <;> omega) (fun j hj => by rw [hzf46_2.eq] at hj; omega) (by rw [hzf46_2.eq]; intro i hi; rw [show i = 0 by omega]; exact ⟨hz0, hz1, hz2⟩) (by rw [hzf46_2.eq]; exact jav.zero) (Nat.lt_succ_self _)
    · refine J_aload_n dX6_turnBack_21 rfl ?_
      refine Jw_callV0 (q9 := (RX3, TX3, 7)) moX3_endX jw_ml_X6_93 jw_im_X3_endX jw_se_X3_endX hb_ro rfl rfl dX6_turnBack_22 (w_X3_endX_z (d - 1) _ ro M g n s xx yy zz S X Y Z (by omega) hW  hb_ro ⟨_, hO_ro, hF_M⟩ ⟨_, hO_ro, hF_g⟩ ⟨_, hO_ro, hF_n⟩ ⟨_, hO_ro, hF_s⟩ ⟨_, hO_ro, hF_xx⟩ ⟨_, hO_ro, hF_yy⟩ ⟨_, hO_ro, hF_zz⟩ ha_S ha_X ha_Y ha_Z (by omega) (by omega) (by omega)) (by omega) (Nat.zero_le _) (Nat.zero_le _) (Nat.le_of_ble_eq_true rfl) (fun r22 V22 h22 => ?_)
      obtain ⟨⟨y22, rfl, hl22, hh22, hP22_0⟩, hE22⟩ := h22
      have hE22 := hE22.symm
      subst hE22
      clear hl22 hh22
      have hz22 : jEq y22.toInt ((X (n.toInt).toNat).toInt) := hP22_0
      clear hP22_0
      refine J_aload_n dX6_turnBack_25 rfl ?_
      refine Jw_callV0 (q9 := (RX3, TX3, 7)) moX3_endY jw_ml_X6_97 jw_im_X3_endY jw_se_X3_endY hb_ro rfl rfl dX6_turnBack_26 (w_X3_endY_z (d - 1) _ ro M g n s xx yy zz S X Y Z (by omega) hW  hb_ro ⟨_, hO_ro, hF_M⟩ ⟨_, hO_ro, hF_g⟩ ⟨_, hO_ro, hF_n⟩ ⟨_, hO_ro, hF_s⟩ ⟨_, hO_ro, hF_xx⟩ ⟨_, hO_ro, hF_yy⟩ ⟨_, hO_ro, hF_zz⟩ ha_S ha_X ha_Y ha_Z (by omega) (by omega) (by omega)) (by omega) (Nat.zero_le _) (Nat.zero_le _) (Nat.le_of_ble_eq_true rfl) (fun r26 V26 h26 => ?_)
      obtain ⟨⟨y26, rfl, hl26, hh26, hP26_0⟩, hE26⟩ := h26
      have hE26 := hE26.symm
      subst hE26
      clear hl26 hh26
      have hz26 : jEq y26.toInt ((Y (n.toInt).toNat).toInt) := hP26_0
      clear hP26_0
      refine J_callS2 moX0_isEven jw_ml_X6_100 jw_st_X0_isEven dX6_turnBack_29 (w_X0_isEven_z (d - 1) _ y22 y26 (by omega)   (by (try simp only [hz22.eq, true_and, and_true]) <;> omega) (by (try simp only [hz22.eq, true_and, and_true]) <;> omega) (by (try simp only [hz26.eq, true_and, and_true]) <;> omega) (by (try simp only [hz26.eq, true_and, and_true]) <;> omega)) (by omega) (Nat.zero_le _) (Nat.zero_le _) (Nat.le_of_ble_eq_true rfl) (fun r29 V29 h29 => ?_)
      obtain ⟨⟨y29, rfl, hl29, hh29, hP29_0⟩, hE29⟩ := h29
      have hE29 := hE29.symm
      subst hE29
      try simp only [hz22.eq, hz26.eq] at hP29_0
      refine Jz_if_ne (tgt := 38) jEq.rf dX6_turnBack_32 (by decide) (fun c32 => ?_) (fun c32 => ?_)
      · refine J_aload_n dX6_turnBack_38 rfl ?_
        refine J_get jf_X6_22 dX6_turnBack_39 hO_a0 hF_tr ?_
        refine J_aload_n dX6_turnBack_42 rfl ?_
        refine J_get jf_X6_59 dX6_turnBack_43 hO_ro hF_g ?_
        have hz0 := hp7
        have hz1 := hp8
        have hz2 := hp9
        have hdc := jdir_cases g.toInt
        refine Jw_callV1 (q9 := (RX3, TX3, 7)) moX3_begin jw_ml_X6_52 jw_im_X3_begin jw_se_X3_begin hb_tr rfl rfl dX6_turnBack_46 (w_X3_begin_z (d - 1) _ tr g MT (by omega) hW  hb_tr ⟨_, hO_tr, hF_MT⟩) (by omega) (Nat.zero_le _) (Nat.zero_le _) (Nat.le_of_ble_eq_true rfl) (fun r46 V46 h46 => ?_)
        obtain ⟨h46, hX46_0, ⟨fv46_0, hfv46_0, hfp46_0⟩, ⟨fv46_1, hfv46_1, hfp46_1⟩, ⟨fv46_2, hfv46_2, hfp46_2⟩⟩ := h46
        obtain ⟨hW, hx46, hr46⟩ := h46
        have he := he.trans (hx46.sub (jsub_of rfl))
        have hfp := hfp.trans (hX46_0.sub (fun b hb => by simp only [List.mem_cons, List.not_mem_nil, or_false] at hb ⊢; omega))
        have ha0 := ha0.mono hx46.1
        have hb_md := hb_md.mono hx46.1
        have hb_tr := hb_tr.mono hx46.1
        have hb_ro := hb_ro.mono hx46.1
        have hb_s := hb_s.mono hx46.1
        have hb_xx := hb_xx.mono hx46.1
        have hb_yy := hb_yy.mono hx46.1
        have hb_zz := hb_zz.mono hx46.1
        have hb_sT := hb_sT.mono hx46.1
        have hb_xxT := hb_xxT.mono hx46.1
        have hb_yyT := hb_yyT.mono hx46.1
        have hb_zzT := hb_zzT.mono hx46.1
        have hO_a0 := hx46.2 _ _ hO_a0 (jnot_of rfl)
        have hK_a0 := hK_a0.mono hx46.1
        have hO_ro := (hX46_0 ro (fun q => hAB ro List.mem_cons_self (List.mem_cons.mpr (Or.inl (List.mem_singleton.mp q))))).trans hO_ro
        have hK_ro := hK_ro.mono hx46.1
        obtain ⟨fs46tr, hOfs46tr, hRfs46tr⟩ := hx46.1.keep hO_tr
        have hKfs46tr : jokO _ (jFs 1) fs46tr := hW _ _ id hOfs46tr
        have hFfs46tr_1 := hRfs46tr _ _ hF_sT
        have hFfs46tr_2 := hRfs46tr _ _ hF_xxT
        have hFfs46tr_3 := hRfs46tr _ _ hF_yyT
        have hFfs46tr_4 := hRfs46tr _ _ hF_zzT
        have ha_S := (hX46_0 s (fun q => hAB s (List.mem_cons_of_mem _ List.mem_cons_self) (List.mem_cons.mpr (Or.inl (List.mem_singleton.mp q))))).trans ha_S
        have ha_X := (hX46_0 xx (fun q => hAB xx (List.mem_cons_of_mem _ (List.mem_cons_of_mem _ List.mem_cons_self)) (List.mem_cons.mpr (Or.inl (List.mem_singleton.mp q))))).trans ha_X
        have ha_Y := (hX46_0 yy (fun q => hAB yy (List.mem_cons_of_mem _ (List.mem_cons_of_mem _ (List.mem_cons_of_mem _ List.mem_cons_self))) (List.mem_cons.mpr (Or.inl (List.mem_singleton.mp q))))).trans ha_Y
        have ha_Z := (hX46_0 zz (fun q => hAB zz (List.mem_cons_of_mem _ (List.mem_cons_of_mem _ (List.mem_cons_of_mem _ (List.mem_cons_of_mem _ List.mem_cons_self)))) (List.mem_cons.mpr (Or.inl (List.mem_singleton.mp q))))).trans ha_Z
        have ha_ST := hx46.2 _ _ ha_ST (jnot_of rfl)
        have ha_XT := hx46.2 _ _ ha_XT (jnot_of rfl)
        have ha_YT := hx46.2 _ _ ha_YT (jnot_of rfl)
        have ha_ZT := hx46.2 _ _ ha_ZT (jnot_of rfl)
        cases hr46
        have hFv46_0 := hfv46_0.get hOfs46tr
        have hsb46_0 : MT = fv46_0 := (jI_inj.mp hfp46_0).symm
        subst hsb46_0
        have hFv46_1 := hfv46_1.get hOfs46tr
        have hsb46_1 : g = fv46_1 := (jI_inj.mp hfp46_1).symm
        subst hsb46_1
        have hFv46_2 := hfv46_2.get hOfs46tr
        have hzf46_2 : jEq fv46_2.toInt (0) := hfp46_2
        clear hfp46_2
        refine J_aload_n dX6_turnBack_49 rfl ?_
        refine J_get jf_X6_69 dX6_turnBack_50 hO_ro hF_n ?_
        refine Jz_iconst 1 dX6_turnBack_53 (by decide) (fun y53 he53 => ?_)
        refine Jz_isub jEq.rf he53 dX6_turnBack_54 (by omega) (by omega) (fun y54 he54 => ?_)
        refine J_istore_n dX6_turnBack_55 rfl (by decide) ?_
        have L56 : ∀ (N : Nat) (V : jH) (i3n56 : Int32) (gs56tr : List Value) (g6n56 : Int32) (F6n56 : Nat → Int32) (F34n56 : Nat → Int32) (F35n56 : Nat → Int32) (F36n56 : Nat → Int32), WT V → jeff [.inr 1, .inl 6, .inl 34, .inl 35, .inl 36] V0 V → (jis V (.inr 4) a0) → (jis V (.inl 4) md) → (jis V (.inr 1) tr) → (jis V (.inr 1) ro) → (jis V (.inl 6) s) → (jis V (.inl 34) xx) → (jis V (.inl 35) yy) → (jis V (.inl 36) zz) → (jis V (.inl 6) sT) → (jis V (.inl 34) xxT) → (jis V (.inl 35) yyT) → (jis V (.inl 36) zzT) → (jfp [ro, s, xx, yy, zz, tr, sT, xxT, yyT, zzT] V0 V) → (V a0 = some (.inr (4, fs_a0))) → (jokO V (jFs 4) fs_a0) → (V ro = some (.inr (1, fs_ro))) → (jokO V (jFs 1) fs_ro) → (V tr = some (.inr (1, gs56tr))) → (gs56tr[1]? = some (.ref sT)) → (gs56tr[2]? = some (.ref xxT)) → (gs56tr[3]? = some (.ref yyT)) → (gs56tr[4]? = some (.ref zzT)) → (gs56tr[0]? = some (.int MT)) → (gs56tr[5]? = some (.int g)) → (gs56tr[6]? = some (.int g6n56)) → (V sT = some (.inl (6, 120, .inl F6n56))) → (V xxT = some (.inl (34, 121, .inl F34n56))) → (V yyT = some (.inl (35, 121, .inl F35n56))) → (V zzT = some (.inl (36, 121, .inl F36n56))) → (V s = some (.inl (6, 60, .inl S))) → (V xx = some (.inl (34, 61, .inl X))) → (V yy = some (.inl (35, 61, .inl Y))) → (V zz = some (.inl (36, 61, .inl Z))) → (-1 ≤ i3n56.toInt ∧ i3n56.toInt ≤ n.toInt - 1) → (g6n56.toInt = n.toInt - 1 - i3n56.toInt) → (∀ j : Nat, (j : Int) < g6n56.toInt → (F6n56 j).toInt = (jTb g.toInt (fun q => (S q).toInt) n.toInt.toNat) j) → (jrv g.toInt (jTb g.toInt (fun q => (S q).toInt) n.toInt.toNat) g6n56.toInt.toNat F34n56 F35n56 F36n56) → (jav g.toInt (jTb g.toInt (fun q => (S q).toInt) n.toInt.toNat) g6n56.toInt.toNat) → (i3n56.toInt + 2).toNat < N → J tS mX6_turnBack d 56 [some (.ref a0), some (.int x1), some (.ref ro), some (.int i3n56)] [] V 0 0 (fun r V => (jPost [.inr 1, .inl 6, .inl 34, .inl 35, .inl 36] V0 (fun r _ => ∃ y : Int32, r = some (.int y) ∧ ((-2147483648) ≤ y.toInt) ∧ (y.toInt ≤ 2147483647) ∧ (y.toInt = n.toInt))) r V ∧ (∃ S2 X2 Y2 Z2 : Nat → Int32, jrw V ro s xx yy zz 60 g.toInt (n.toInt) S2 X2 Y2 Z2 ∧ (∀ j : Nat, (j : Int) < n.toInt → (S2 j).toInt = (jTb g.toInt (fun q => (S q).toInt) n.toInt.toNat) j) ∧ jrv g.toInt (jTb g.toInt (fun q => (S q).toInt) n.toInt.toNat) (n.toInt).toNat X2 Y2 Z2) ∧ (∃ (g2 n2 : Int) (S2 X2 Y2 Z2 : Nat → Int32), jrw V tr sT xxT yyT zzT 120 g2 n2 S2 X2 Y2 Z2 ∧ (X2 0).toInt = 0 ∧ (Y2 0).toInt = 0 ∧ (Z2 0).toInt = 0) ∧ jfp [ro, s, xx, yy, zz, tr, sT, xxT, yyT, zzT] V0 V) := by
          intro N
          induction N with
          | zero => intro V i3n56 gs56tr g6n56 F6n56 F34n56 F35n56 F36n56 hW he ha0 hb_md hb_tr hb_ro hb_s hb_xx hb_yy hb_zz hb_sT hb_xxT hb_yyT hb_zzT hfp hO_a0 hK_a0 hO_ro hK_ro hOgs56tr hFgs56tr_1 hFgs56tr_2 hFgs56tr_3 hFgs56tr_4 hFgs56tr_0 hFgs56tr_5 hFgs56tr_6 hAF6n56 hAF34n56 hAF35n56 hAF36n56 ha_S ha_X ha_Y ha_Z hi htn hts hjv hav hm; exact absurd hm (Nat.not_lt_zero _)
          | succ N ih =>
            intro V i3n56 gs56tr g6n56 F6n56 F34n56 F35n56 F36n56 hW he ha0 hb_md hb_tr hb_ro hb_s hb_xx hb_yy hb_zz hb_sT hb_xxT hb_yyT hb_zzT hfp hO_a0 hK_a0 hO_ro hK_ro hOgs56tr hFgs56tr_1 hFgs56tr_2 hFgs56tr_3 hFgs56tr_4 hFgs56tr_0 hFgs56tr_5 hFgs56tr_6 hAF6n56 hAF34n56 hAF35n56 hAF36n56 ha_S ha_X ha_Y ha_Z hi htn hts hjv hav hm
            have ih56 := ih
            have hri3 := j_rng i3n56
            have hKgs56tr : jokO V (jFs 1) gs56tr := hW _ _ id hOgs56tr
            have hrgg6n56 : 0 ≤ g6n56.toInt ∧ g6n56.toInt ≤ 120 := jok_rngI hKgs56tr rfl hFgs56tr_6
            obtain ⟨hNF6n56, hvF6n56⟩ := WT_rngI (r := ((-2147483648), 2147483647)) hW id rfl hAF6n56
            clear hNF6n56
            obtain ⟨hNF34n56, hvF34n56⟩ := WT_rngI (r := ((-2147483648), 2147483647)) hW id rfl hAF34n56
            clear hNF34n56
            obtain ⟨hNF35n56, hvF35n56⟩ := WT_rngI (r := ((-2147483648), 2147483647)) hW id rfl hAF35n56
            clear hNF35n56
            obtain ⟨hNF36n56, hvF36n56⟩ := WT_rngI (r := ((-2147483648), 2147483647)) hW id rfl hAF36n56
            clear hNF36n56
            refine J_iload_n dX6_turnBack_56 rfl ?_
            refine Jz_if_lt (tgt := 91) jEq.rf dX6_turnBack_57 (by decide) (fun c57 => ?_) (fun c57 => ?_)
            · refine J_aload_n dX6_turnBack_91 rfl ?_
              refine J_aload_n dX6_turnBack_92 rfl ?_
              refine J_get jf_X6_22 dX6_turnBack_93 hO_a0 hF_tr ?_
              have hfin : g6n56.toInt = n.toInt := by omega
              refine Jw_callV1 (q9 := (RX3, TX3, 7)) moX3_become jw_ml_X6_89 jw_im_X3_become jw_se_X3_become hb_ro rfl rfl dX6_turnBack_96 (w_X3_become_z (d - 1) _ ro tr M g g6n56 s xx yy zz sT xxT yyT zzT S X Y Z F6n56 F34n56 F35n56 F36n56 (by omega) hW  hb_ro hb_tr ⟨_, hO_ro, hF_M⟩ ⟨_, hOgs56tr, hFgs56tr_5⟩ ⟨_, hOgs56tr, hFgs56tr_6⟩ ⟨_, hO_ro, hF_s⟩ ⟨_, hO_ro, hF_xx⟩ ⟨_, hO_ro, hF_yy⟩ ⟨_, hO_ro, hF_zz⟩ ⟨_, hOgs56tr, hFgs56tr_1⟩ ⟨_, hOgs56tr, hFgs56tr_2⟩ ⟨_, hOgs56tr, hFgs56tr_3⟩ ⟨_, hOgs56tr, hFgs56tr_4⟩ (fun e => hBA tr List.mem_cons_self (e ▸ List.mem_cons_self)) (fun e => hBA sT (List.mem_cons_of_mem _ List.mem_cons_self) (e ▸ (List.mem_cons_of_mem _ List.mem_cons_self))) (fun e => hBA xxT (List.mem_cons_of_mem _ (List.mem_cons_of_mem _ List.mem_cons_self)) (e ▸ (List.mem_cons_of_mem _ (List.mem_cons_of_mem _ List.mem_cons_self)))) (fun e => hBA yyT (List.mem_cons_of_mem _ (List.mem_cons_of_mem _ (List.mem_cons_of_mem _ List.mem_cons_self))) (e ▸ (List.mem_cons_of_mem _ (List.mem_cons_of_mem _ (List.mem_cons_of_mem _ List.mem_cons_self))))) (fun e => hBA zzT (List.mem_cons_of_mem _ (List.mem_cons_of_mem _ (List.mem_cons_of_mem _ (List.mem_cons_of_mem _ List.mem_cons_self)))) (e ▸ (List.mem_cons_of_mem _ (List.mem_cons_of_mem _ (List.mem_cons_of_mem _ (List.mem_cons_of_mem _ List.mem_cons_self)))))) ha_S ha_X ha_Y ha_Z hAF6n56 hAF34n56 hAF35n56 hAF36n56 (by omega) (by omega) (by omega) (by omega) (by omega)) (by omega) (Nat.zero_le _) (Nat.zero_le _) (Nat.le_of_ble_eq_true rfl) (fun r96 V96 h96 => ?_)
              obtain ⟨h96, hX96_0, hX96_1, hX96_2, hX96_3, hX96_4, ⟨fv96_0, hfv96_0, hfp96_0⟩, ⟨fv96_1, hfv96_1, hfp96_1⟩, ⟨fv96_2, hfv96_2, hfp96_2⟩⟩ := h96
              obtain ⟨hW, hx96, hr96⟩ := h96
              have he := he.trans (hx96.sub (jsub_of rfl))
              have hfp := hfp.trans (hX96_4.sub (fun b hb => by simp only [List.mem_cons, List.not_mem_nil, or_false] at hb ⊢; omega))
              have ha0 := ha0.mono hx96.1
              have hb_md := hb_md.mono hx96.1
              have hb_tr := hb_tr.mono hx96.1
              have hb_ro := hb_ro.mono hx96.1
              have hb_s := hb_s.mono hx96.1
              have hb_xx := hb_xx.mono hx96.1
              have hb_yy := hb_yy.mono hx96.1
              have hb_zz := hb_zz.mono hx96.1
              have hb_sT := hb_sT.mono hx96.1
              have hb_xxT := hb_xxT.mono hx96.1
              have hb_yyT := hb_yyT.mono hx96.1
              have hb_zzT := hb_zzT.mono hx96.1
              have hO_a0 := hx96.2 _ _ hO_a0 (jnot_of rfl)
              have hK_a0 := hK_a0.mono hx96.1
              obtain ⟨fs96ro, hOfs96ro, hRfs96ro⟩ := hx96.1.keep hO_ro
              have hKfs96ro : jokO _ (jFs 1) fs96ro := hW _ _ id hOfs96ro
              have hFfs96ro_1 := hRfs96ro _ _ hF_s
              have hFfs96ro_2 := hRfs96ro _ _ hF_xx
              have hFfs96ro_3 := hRfs96ro _ _ hF_yy
              have hFfs96ro_4 := hRfs96ro _ _ hF_zz
              have hOgs56tr := (hX96_4 tr (hBA tr List.mem_cons_self)).trans hOgs56tr
              have hKgs56tr := hKgs56tr.mono hx96.1
              have hAF6n56 := (hX96_4 sT (hBA sT (List.mem_cons_of_mem _ List.mem_cons_self))).trans hAF6n56
              have hAF34n56 := (hX96_4 xxT (hBA xxT (List.mem_cons_of_mem _ (List.mem_cons_of_mem _ List.mem_cons_self)))).trans hAF34n56
              have hAF35n56 := (hX96_4 yyT (hBA yyT (List.mem_cons_of_mem _ (List.mem_cons_of_mem _ (List.mem_cons_of_mem _ List.mem_cons_self))))).trans hAF35n56
              have hAF36n56 := (hX96_4 zzT (hBA zzT (List.mem_cons_of_mem _ (List.mem_cons_of_mem _ (List.mem_cons_of_mem _ (List.mem_cons_of_mem _ List.mem_cons_self)))))).trans hAF36n56
              cases hr96
              have hFv96_0 := hfv96_0.get hOfs96ro
              have hsb96_0 : M = fv96_0 := (jI_inj.mp hfp96_0).symm
              subst hsb96_0
              have hFv96_1 := hfv96_1.get hOfs96ro
              have hsb96_1 : g = fv96_1 := (jI_inj.mp hfp96_1).symm
              subst hsb96_1
              have hFv96_2 := hfv96_2.get hOfs96ro
              have hsb96_2 : g6n56 = fv96_2 := (jI_inj.mp hfp96_2).symm
              subst hsb96_2
              obtain ⟨S96, hS96, hSe96⟩ := hX96_0
              obtain ⟨X96, hXa96, hXe96⟩ := hX96_1
              obtain ⟨Y96, hYa96, hYe96⟩ := hX96_2
              obtain ⟨Z96, hZa96, hZe96⟩ := hX96_3
              obtain ⟨hN_S96, hv_S96⟩ := WT_rngI (r := ((-2147483648), 2147483647)) hW id rfl hS96
              clear hN_S96
              obtain ⟨hN_X96, hv_X96⟩ := WT_rngI (r := ((-2147483648), 2147483647)) hW id rfl hXa96
              clear hN_X96
              obtain ⟨hN_Y96, hv_Y96⟩ := WT_rngI (r := ((-2147483648), 2147483647)) hW id rfl hYa96
              clear hN_Y96
              obtain ⟨hN_Z96, hv_Z96⟩ := WT_rngI (r := ((-2147483648), 2147483647)) hW id rfl hZa96
              clear hN_Z96
              refine J_aload_n dX6_turnBack_99 rfl ?_
              refine J_get jf_X6_69 dX6_turnBack_100 hOfs96ro hFv96_2 ?_
              exact J_ret (r := some (.int _)) dX6_turnBack_103 ⟨rfl, _, rfl, rfl⟩ (⟨⟨hW, he, ⟨_, rfl, (j_rng _).1, (j_rng _).2, (by omega)⟩⟩, ⟨S96, X96, Y96, Z96, ⟨⟨_, ⟨_, hOfs96ro, hFv96_0⟩, hm_ro⟩, ⟨_, ⟨_, hOfs96ro, hFv96_1⟩, rfl⟩, ⟨_, ⟨_, hOfs96ro, hFv96_2⟩, hfin⟩, ⟨_, hOfs96ro, hFfs96ro_1⟩, ⟨_, hOfs96ro, hFfs96ro_2⟩, ⟨_, hOfs96ro, hFfs96ro_3⟩, ⟨_, hOfs96ro, hFfs96ro_4⟩, hS96, hXa96, hYa96, hZa96⟩, (fun j hj => by rw [hSe96 j (by omega)]; exact hts j (by omega)), (by intro i hi; rw [hXe96 i (by omega), hYe96 i (by omega), hZe96 i (by omega)]; exact hjv i (by omega))⟩, ⟨_, _, _, _, _, _, ⟨⟨_, ⟨_, hOgs56tr, hFgs56tr_0⟩, hm_tr⟩, ⟨_, ⟨_, hOgs56tr, hFgs56tr_5⟩, rfl⟩, ⟨_, ⟨_, hOgs56tr, hFgs56tr_6⟩, rfl⟩, ⟨_, hOgs56tr, hFgs56tr_1⟩, ⟨_, hOgs56tr, hFgs56tr_2⟩, ⟨_, hOgs56tr, hFgs56tr_3⟩, ⟨_, hOgs56tr, hFgs56tr_4⟩, hAF6n56, hAF34n56, hAF35n56, hAF36n56⟩, (hjv 0 (Nat.zero_le _))⟩, hfp⟩)
            · refine J_aload_n dX6_turnBack_60 rfl ?_
              refine J_get jf_X6_22 dX6_turnBack_61 hO_a0 hF_tr ?_
              refine J_aload_n dX6_turnBack_64 rfl ?_
              refine J_get jf_X6_59 dX6_turnBack_65 hO_ro hF_g ?_
              refine J_aload_n dX6_turnBack_68 rfl ?_
              refine J_iload_n dX6_turnBack_69 rfl ?_
              refine Jw_callV1 (q9 := (RX3, TX3, 7)) moX3_direction jw_ml_X6_81 jw_im_X3_direction jw_se_X3_direction hb_ro rfl rfl dX6_turnBack_70 (w_X3_direction_z (d - 1) _ ro i3n56 s S (by omega) hW  hb_ro ⟨_, hO_ro, hF_s⟩ ha_S (by omega) (by omega) (by omega)) (by omega) (Nat.zero_le _) (Nat.zero_le _) (Nat.le_of_ble_eq_true rfl) (fun r70 V70 h70 => ?_)
              obtain ⟨⟨y70, rfl, hl70, hh70, hP70_0⟩, hE70⟩ := h70
              have hE70 := hE70.symm
              subst hE70
              clear hl70 hh70
              have hz70 : jEq y70.toInt ((S (i3n56.toInt).toNat).toInt) := hP70_0
              clear hP70_0
              have hsd := hp6 i3n56.toInt.toNat (by omega)
              refine J_callS2 moX0_opposite jw_ml_X6_103 jw_st_X0_opposite dX6_turnBack_73 (w_X0_opposite_z (d - 1) _ g y70 (by omega)   (by omega) (by omega) (by (try simp only [hz70.eq, true_and, and_true]) <;> omega) (by (try simp only [hz70.eq, true_and, and_true]) <;> omega)) (by omega) (Nat.zero_le _) (Nat.zero_le _) (Nat.le_of_ble_eq_true rfl) (fun r73 V73 h73 => ?_)
              obtain ⟨⟨y73, rfl, hl73, hh73, hP73_0⟩, hE73⟩ := h73
              have hE73 := hE73.symm
              subst hE73
              clear hl73 hh73
              try simp only [hz70.eq] at hP73_0
              have hz73 : jEq y73.toInt (jopp (g.toInt) ((S (i3n56.toInt).toNat).toInt)) := hP73_0
              clear hP73_0
              have hob := jopp_b (g := g.toInt) (d := (S i3n56.toInt.toNat).toInt) (by omega) (by omega)
              have htp : (jTb g.toInt (fun q => (S q).toInt) n.toInt.toNat) g6n56.toInt.toNat = y73.toInt := (by unfold jTb; (show jopp _ (S _).toInt = _); rw [show n.toInt.toNat - 1 - g6n56.toInt.toNat = i3n56.toInt.toNat by omega]; exact (hz73.eq).symm)
              have hbx := hjv.b g6n56.toInt.toNat (Nat.le_refl _)
              have hcc : jav g.toInt (jTb g.toInt (fun q => (S q).toInt) n.toInt.toNat) (g6n56.toInt.toNat + 1) := hp10.mono (by omega)
              refine Jw_callV1 (q9 := (RX3, TX3, 7)) moX3_lay jw_ml_X6_72 jw_im_X3_lay jw_se_X3_lay hb_tr rfl rfl dX6_turnBack_76 (w_X3_lay_yes (d - 1) _ tr y73 MT g g6n56 sT xxT yyT zzT F6n56 F34n56 F35n56 F36n56 (by omega) hW  hb_tr ⟨_, hOgs56tr, hFgs56tr_0⟩ ⟨_, hOgs56tr, hFgs56tr_5⟩ ⟨_, hOgs56tr, hFgs56tr_6⟩ ⟨_, hOgs56tr, hFgs56tr_1⟩ ⟨_, hOgs56tr, hFgs56tr_2⟩ ⟨_, hOgs56tr, hFgs56tr_3⟩ ⟨_, hOgs56tr, hFgs56tr_4⟩ hAF6n56 hAF34n56 hAF35n56 hAF36n56 (by omega) (by omega) (by omega) (by omega) (by omega) (by first | omega | (simp only [hz73.eq]; omega)) (by first | omega | (simp only [hz73.eq]; omega)) (by omega) (by omega) (by omega) (by omega) (by omega) (by omega) (by omega) (fun j hj q => (jav_succ.mp hcc).2 j (by omega) ((hjv.next (by omega)).mpr (by rw [htp]; exact q)))) (by omega) (Nat.zero_le _) (Nat.zero_le _) (Nat.le_of_ble_eq_true rfl) (fun r76 V76 h76 => ?_)
              obtain ⟨h76, hX76_0, hX76_1, hX76_2, hX76_3, hX76_4, ⟨fv76_0, hfv76_0, hfp76_0⟩, ⟨fv76_1, hfv76_1, hfp76_1⟩, ⟨fv76_2, hfv76_2, hfp76_2⟩⟩ := h76
              obtain ⟨hW, hx76, hr76⟩ := h76
              have he := he.trans (hx76.sub (jsub_of rfl))
              have hfp := hfp.trans (hX76_4.sub (fun b hb => by simp only [List.mem_cons, List.not_mem_nil, or_false] at hb ⊢; omega))
              have ha0 := ha0.mono hx76.1
              have hb_md := hb_md.mono hx76.1
              have hb_tr := hb_tr.mono hx76.1
              have hb_ro := hb_ro.mono hx76.1
              have hb_s := hb_s.mono hx76.1
              have hb_xx := hb_xx.mono hx76.1
              have hb_yy := hb_yy.mono hx76.1
              have hb_zz := hb_zz.mono hx76.1
              have hb_sT := hb_sT.mono hx76.1
              have hb_xxT := hb_xxT.mono hx76.1
              have hb_yyT := hb_yyT.mono hx76.1
              have hb_zzT := hb_zzT.mono hx76.1
              have hO_a0 := hx76.2 _ _ hO_a0 (jnot_of rfl)
              have hK_a0 := hK_a0.mono hx76.1
              have hO_ro := (hX76_4 ro (hAB ro List.mem_cons_self)).trans hO_ro
              have hK_ro := hK_ro.mono hx76.1
              obtain ⟨fs76tr, hOfs76tr, hRfs76tr⟩ := hx76.1.keep hOgs56tr
              have hKfs76tr : jokO _ (jFs 1) fs76tr := hW _ _ id hOfs76tr
              have hFfs76tr_1 := hRfs76tr _ _ hFgs56tr_1
              have hFfs76tr_2 := hRfs76tr _ _ hFgs56tr_2
              have hFfs76tr_3 := hRfs76tr _ _ hFgs56tr_3
              have hFfs76tr_4 := hRfs76tr _ _ hFgs56tr_4
              have ha_S := (hX76_4 s (hAB s (List.mem_cons_of_mem _ List.mem_cons_self))).trans ha_S
              have ha_X := (hX76_4 xx (hAB xx (List.mem_cons_of_mem _ (List.mem_cons_of_mem _ List.mem_cons_self)))).trans ha_X
              have ha_Y := (hX76_4 yy (hAB yy (List.mem_cons_of_mem _ (List.mem_cons_of_mem _ (List.mem_cons_of_mem _ List.mem_cons_self))))).trans ha_Y
              have ha_Z := (hX76_4 zz (hAB zz (List.mem_cons_of_mem _ (List.mem_cons_of_mem _ (List.mem_cons_of_mem _ (List.mem_cons_of_mem _ List.mem_cons_self)))))).trans ha_Z
              obtain ⟨y76, rfl, hl76, hh76, hP76_0⟩ := hr76
              try simp only [hz73.eq] at hP76_0
              have hFv76_0 := hfv76_0.get hOfs76tr
              try simp only [hz73.eq] at hfp76_0
              have hzf76_0 : jEq fv76_0.toInt ((g6n56.toInt) + 1) := hfp76_0
              clear hfp76_0
              have hFv76_1 := hfv76_1.get hOfs76tr
              try simp only [hz73.eq] at hfp76_1
              have hsb76_1 : MT = fv76_1 := (jI_inj.mp hfp76_1).symm
              subst hsb76_1
              have hFv76_2 := hfv76_2.get hOfs76tr
              try simp only [hz73.eq] at hfp76_2
              have hsb76_2 : g = fv76_2 := (jI_inj.mp hfp76_2).symm
              subst hsb76_2
              obtain ⟨S76, hS76, hSn76, hSo76⟩ := hX76_0
              obtain ⟨X76, hXa76, hXn76, hXo76⟩ := hX76_1
              obtain ⟨Y76, hYa76, hYn76, hYo76⟩ := hX76_2
              obtain ⟨Z76, hZa76, hZn76, hZo76⟩ := hX76_3
              obtain ⟨hN_S76, hv_S76⟩ := WT_rngI (r := ((-2147483648), 2147483647)) hW id rfl hS76
              clear hN_S76
              obtain ⟨hN_X76, hv_X76⟩ := WT_rngI (r := ((-2147483648), 2147483647)) hW id rfl hXa76
              clear hN_X76
              obtain ⟨hN_Y76, hv_Y76⟩ := WT_rngI (r := ((-2147483648), 2147483647)) hW id rfl hYa76
              clear hN_Y76
              obtain ⟨hN_Z76, hv_Z76⟩ := WT_rngI (r := ((-2147483648), 2147483647)) hW id rfl hZa76
              clear hN_Z76
              refine Jz_if_ne (tgt := 85) jEq.rf dX6_turnBack_79 (by decide) (fun c79 => ?_) (fun c79 => ?_)
              · refine Jz_iinc (-1) dX6_turnBack_85 rfl rfl (by decide) jEq.rf (by decide) (by omega) (by omega) (fun y85 he85 => ?_)
                refine J_goto (tgt := 56) dX6_turnBack_88 (by decide) ?_
                refine J.mask [true, true, true, true] ?_
                exact ih56 _ y85 fs76tr fv76_0 S76 X76 Y76 Z76 hW he ha0 hb_md hb_tr hb_ro hb_s hb_xx hb_yy hb_zz hb_sT hb_xxT hb_yyT hb_zzT hfp hO_a0 hK_a0 hO_ro hK_ro hOfs76tr hFfs76tr_1 hFfs76tr_2 hFfs76tr_3 hFfs76tr_4 hFv76_1 hFv76_2 hFv76_0 hS76 hXa76 hYa76 hZa76 ha_S ha_X ha_Y ha_Z (by (try simp only [he85.eq, hzf76_0.eq, true_and, and_true]) <;> omega) (by (try simp only [he85.eq, hzf76_0.eq, true_and, and_true]) <;> omega) (fun j hj => by rw [hzf76_0.eq] at hj; by_cases c : (j : Int) = g6n56.toInt; (have e : j = g6n56.toInt.toNat := by omega); subst e; rw [hSn76, htp]; rw [hSo76 j (by omega)]; exact hts j (by omega)) (by rw [hzf76_0.eq, show (g6n56.toInt + 1).toNat = g6n56.toInt.toNat + 1 by omega]; exact hjv.lay (by rw [hXn76, htp]) (by rw [hYn76, htp]) (by rw [hZn76, htp]) hXo76 hYo76 hZo76) (by rw [hzf76_0.eq, show (g6n56.toInt + 1).toNat = g6n56.toInt.toNat + 1 by omega]; exact hcc) (by (try simp only [he85.eq, hzf76_0.eq, true_and, and_true]) <;> omega)
              · exact False.elim (by omega)
        refine J.mask [true, true, true, true] ?_
        exact L56 _ _ y54 fs46tr fv46_2 ST XT YT ZT hW he ha0 hb_md hb_tr hb_ro hb_s hb_xx hb_yy hb_zz hb_sT hb_xxT hb_yyT hb_zzT hfp hO_a0 hK_a0 hO_ro hK_ro hOfs46tr hFfs46tr_1 hFfs46tr_2 hFfs46tr_3 hFfs46tr_4 hFv46_0 hFv46_1 hFv46_2 ha_ST ha_XT ha_YT ha_ZT ha_S ha_X ha_Y ha_Z (by (try simp only [he54.eq, hzf46_2.eq, true_and, and_true]) <;> omega) (by (try simp only [he54.eq, hzf46_2.eq, true_and, and_true]) <;> omega) (fun j hj => by rw [hzf46_2.eq] at hj; omega) (by rw [hzf46_2.eq]; intro i hi; rw [show i = 0 by omega]; exact ⟨hz0, hz1, hz2⟩) (by rw [hzf46_2.eq]; exact jav.zero) (Nat.lt_succ_self _)
      · exact False.elim (by have q := hp5 (by omega); omega)
set_option maxRecDepth 100000 in
set_option maxHeartbeats 8000000 in
theorem w_X6_walk_zbad {tS : jTS} (d : Nat) (V0 : jH) (a0 : Nat) (x1 : Int32) (hd : 2 ≤ d) (hW : WT V0) (ha0 : jis V0 (.inr 4) a0) (hp0 : ¬ (0 ≤ x1.toInt ∧ x1.toInt ≤ 3)) : jTot tS mX6_walk d [.ref a0, .int x1] V0 0 0 (fun r V => (fun r _ => ∃ y : Int32, r = some (.int y) ∧ ((-2147483648) ≤ y.toInt) ∧ (y.toInt ≤ 2147483647) ∧ (y.toInt = -2)) r V ∧ V = V0) := by
  refine jTot.of_J [some (.ref a0), some (.int x1), none] moX6_walk (Nat.le_of_ble_eq_true rfl) rfl ?_
  have hrx1 := j_rng x1
  have he : jeff [] V0 V0 := jeff.refl _ _
  refine J_iload_n dX6_walk_0 rfl ?_
  refine J_callS1 moX0_isGround jw_ml_X6_46 jw_st_X0_isGround dX6_walk_1 (w_X0_isGround_z (d - 1) _ x1 (by omega)   ) (by omega) (Nat.zero_le _) (Nat.zero_le _) (Nat.le_of_ble_eq_true rfl) (fun r1 V1 h1 => ?_)
  obtain ⟨⟨y1, rfl, hl1, hh1, hP1_0⟩, hE1⟩ := h1
  have hE1 := hE1.symm
  subst hE1
  refine Jz_if_ne (tgt := 10) jEq.rf dX6_walk_4 (by decide) (fun c4 => ?_) (fun c4 => ?_)
  · exact False.elim (by omega)
  · refine Jz_bipush (-2) dX6_walk_7 (by decide) (fun y7 he7 => ?_)
    exact J_ret (r := some (.int _)) dX6_walk_9 ⟨rfl, _, rfl, rfl⟩ (⟨⟨_, rfl, (j_rng _).1, (j_rng _).2, (by (try simp only [he7.eq, true_and, and_true]) <;> omega)⟩, rfl⟩)
set_option maxRecDepth 100000 in
set_option maxHeartbeats 8000000 in
theorem w_X6_join_oo {tS : jTS} (d : Nat) (V0 : jH) (a0 : Nat) (x1 : Int32) (x2 : Int32) (k : Int32) (md : Nat) (hd : 4 ≤ d) (hW : WT V0) (ha0 : jis V0 (.inr 4) a0) (hf_k : jfI V0 a0 4 1 k) (hr_md : jfR V0 a0 4 0 md) (hp0 : ¬ (0 ≤ x1.toInt ∧ x1.toInt < k.toInt)) (hp1 : ¬ (0 ≤ x2.toInt ∧ x2.toInt < k.toInt)) : jTot tS mX6_join d [.ref a0, .int x1, .int x2] V0 0 0 (fun r V => (fun r _ => ∃ y : Int32, r = some (.int y) ∧ ((-2147483648) ≤ y.toInt) ∧ (y.toInt ≤ 2147483647) ∧ (y.toInt = -2)) r V ∧ V = V0) := by
  refine jTot.of_J [some (.ref a0), some (.int x1), some (.int x2), none, none, none] moX6_join (Nat.le_of_ble_eq_true rfl) rfl ?_
  have hrx1 := j_rng x1
  have hrx2 := j_rng x2
  have he : jeff [] V0 V0 := jeff.refl _ _
  obtain ⟨fs_a0, hO_a0, hK_a0⟩ := WT_obj hW id ha0
  have hF_k := hf_k.get hO_a0
  have hrk : 0 ≤ k.toInt ∧ k.toInt ≤ 16 := jok_rngI hK_a0 rfl hF_k
  have hF_md := hr_md.get hO_a0
  obtain ⟨w_md, hFq_md, b_md, hbq_md, hb_md⟩ := hK_a0.2 0 (.inr (some (.inl 4))) rfl
  cases hF_md.symm.trans (hFq_md.trans (congrArg some hbq_md))
  refine J_aload_n dX6_join_0 rfl ?_
  refine J_iload_n dX6_join_1 rfl ?_
  refine Jw_callV1 (q9 := (RX6, TX6, 7)) moX6_rowOf jw_ml_X6_55 jw_im_X6_rowOf jw_se_X6_rowOf ha0 rfl rfl dX6_join_2 (w_X6_rowOf_out (d - 1) _ a0 x1 hO_a0 hF_k (by omega)) (by omega) (Nat.zero_le _) (Nat.zero_le _) (Nat.le_of_ble_eq_true rfl) (fun r2 V2 h2 => ?_)
  obtain ⟨rfl, hE2⟩ := h2
  have hE2 := hE2.symm
  subst hE2
  · refine J_astore_nN dX6_join_5 rfl (by decide) ?_
    refine J_aload_n dX6_join_6 rfl ?_
    refine J_iload_n dX6_join_7 rfl ?_
    refine Jw_callV1 (q9 := (RX6, TX6, 7)) moX6_rowOf jw_ml_X6_55 jw_im_X6_rowOf jw_se_X6_rowOf ha0 rfl rfl dX6_join_8 (w_X6_rowOf_out (d - 1) _ a0 x2 hO_a0 hF_k (by omega)) (by omega) (Nat.zero_le _) (Nat.zero_le _) (Nat.le_of_ble_eq_true rfl) (fun r8 V8 h8 => ?_)
    obtain ⟨rfl, hE8⟩ := h8
    have hE8 := hE8.symm
    subst hE8
    · refine J_astoreN dX6_join_11 rfl (by decide) ?_
      refine J_aload_nN dX6_join_13 rfl ?_
      refine J_ifnullN (tgt := 22) dX6_join_14 (by decide) ?_
      refine Jz_bipush (-2) dX6_join_22 (by decide) (fun y22 he22 => ?_)
      exact J_ret (r := some (.int _)) dX6_join_24 ⟨rfl, _, rfl, rfl⟩ (⟨⟨_, rfl, (j_rng _).1, (j_rng _).2, (by (try simp only [he22.eq, true_and, and_true]) <;> omega)⟩, rfl⟩)
set_option maxRecDepth 100000 in
set_option maxHeartbeats 8000000 in
theorem w_X6_join_oi {tS : jTS} (d : Nat) (V0 : jH) (a0 : Nat) (x1 : Int32) (x2 : Int32) (k : Int32) (md : Nat) (f : Nat → Option Nat) (rb : Nat) (MB : Int32) (gB : Int32) (nB : Int32) (sB : Nat) (xxB : Nat) (yyB : Nat) (zzB : Nat) (SB : Nat → Int32) (XB : Nat → Int32) (YB : Nat → Int32) (ZB : Nat → Int32) (hd : 4 ≤ d) (hW : WT V0) (ha0 : jis V0 (.inr 4) a0) (hf_k : jfI V0 a0 4 1 k) (hr_md : jfR V0 a0 4 0 md) (ha_f : V0 md = some (.inl (4, 16, .inr (.inr (.inr (.inr f)))))) (hf_MB : jfI V0 rb 1 0 MB) (hf_gB : jfI V0 rb 1 5 gB) (hf_nB : jfI V0 rb 1 6 nB) (hr_sB : jfR V0 rb 1 1 sB) (hr_xxB : jfR V0 rb 1 2 xxB) (hr_yyB : jfR V0 rb 1 3 yyB) (hr_zzB : jfR V0 rb 1 4 zzB) (ha_SB : V0 sB = some (.inl (6, 60, .inl SB))) (ha_XB : V0 xxB = some (.inl (34, 61, .inl XB))) (ha_YB : V0 yyB = some (.inl (35, 61, .inl YB))) (ha_ZB : V0 zzB = some (.inl (36, 61, .inl ZB))) (hm_rb : MB.toInt = 60) (hn_rb : nB.toInt ≤ 60) (hfb : f x2.toInt.toNat = some rb) (hp0 : ¬ (0 ≤ x1.toInt ∧ x1.toInt < k.toInt)) (hp1 : 0 ≤ x2.toInt) (hp2 : x2.toInt < k.toInt) : jTot tS mX6_join d [.ref a0, .int x1, .int x2] V0 0 0 (fun r V => (fun r _ => ∃ y : Int32, r = some (.int y) ∧ ((-2147483648) ≤ y.toInt) ∧ (y.toInt ≤ 2147483647) ∧ (y.toInt = -2)) r V ∧ V = V0) := by
  refine jTot.of_J [some (.ref a0), some (.int x1), some (.int x2), none, none, none] moX6_join (Nat.le_of_ble_eq_true rfl) rfl ?_
  have hrx1 := j_rng x1
  have hrx2 := j_rng x2
  have he : jeff [] V0 V0 := jeff.refl _ _
  obtain ⟨fs_a0, hO_a0, hK_a0⟩ := WT_obj hW id ha0
  have hF_k := hf_k.get hO_a0
  have hrk : 0 ≤ k.toInt ∧ k.toInt ≤ 16 := jok_rngI hK_a0 rfl hF_k
  have hF_md := hr_md.get hO_a0
  obtain ⟨w_md, hFq_md, b_md, hbq_md, hb_md⟩ := hK_a0.2 0 (.inr (some (.inl 4))) rfl
  cases hF_md.symm.trans (hFq_md.trans (congrArg some hbq_md))
  have hb_rb : jis V0 (.inr 1) rb := by obtain ⟨q1, q2, q3⟩ := hf_MB; exact ⟨_, q2, rfl⟩
  obtain ⟨fs_rb, hO_rb, hK_rb⟩ := WT_obj hW id hb_rb
  have hF_MB := hf_MB.get hO_rb
  have hrMB : 0 ≤ MB.toInt ∧ MB.toInt ≤ 120 := jok_rngI hK_rb rfl hF_MB
  have hF_gB := hf_gB.get hO_rb
  have hrgB : (-2147483648) ≤ gB.toInt ∧ gB.toInt ≤ 2147483647 := jok_rngI hK_rb rfl hF_gB
  have hF_nB := hf_nB.get hO_rb
  have hrnB : 0 ≤ nB.toInt ∧ nB.toInt ≤ 120 := jok_rngI hK_rb rfl hF_nB
  have hF_sB := hr_sB.get hO_rb
  have hb_sB : jis V0 (.inl 6) sB := ⟨_, ha_SB, rfl⟩
  obtain ⟨hN_SB, hv_SB⟩ := WT_rngI (r := (-2147483648, 2147483647)) hW id rfl ha_SB
  clear hN_SB
  have hF_xxB := hr_xxB.get hO_rb
  have hb_xxB : jis V0 (.inl 34) xxB := ⟨_, ha_XB, rfl⟩
  obtain ⟨hN_XB, hv_XB⟩ := WT_rngI (r := (-2147483648, 2147483647)) hW id rfl ha_XB
  clear hN_XB
  have hF_yyB := hr_yyB.get hO_rb
  have hb_yyB : jis V0 (.inl 35) yyB := ⟨_, ha_YB, rfl⟩
  obtain ⟨hN_YB, hv_YB⟩ := WT_rngI (r := (-2147483648, 2147483647)) hW id rfl ha_YB
  clear hN_YB
  have hF_zzB := hr_zzB.get hO_rb
  have hb_zzB : jis V0 (.inl 36) zzB := ⟨_, ha_ZB, rfl⟩
  obtain ⟨hN_ZB, hv_ZB⟩ := WT_rngI (r := (-2147483648, 2147483647)) hW id rfl ha_ZB
  clear hN_ZB
  refine J_aload_n dX6_join_0 rfl ?_
  refine J_iload_n dX6_join_1 rfl ?_
  refine Jw_callV1 (q9 := (RX6, TX6, 7)) moX6_rowOf jw_ml_X6_55 jw_im_X6_rowOf jw_se_X6_rowOf ha0 rfl rfl dX6_join_2 (w_X6_rowOf_out (d - 1) _ a0 x1 hO_a0 hF_k (by omega)) (by omega) (Nat.zero_le _) (Nat.zero_le _) (Nat.le_of_ble_eq_true rfl) (fun r2 V2 h2 => ?_)
  obtain ⟨rfl, hE2⟩ := h2
  have hE2 := hE2.symm
  subst hE2
  · refine J_astore_nN dX6_join_5 rfl (by decide) ?_
    refine J_aload_n dX6_join_6 rfl ?_
    refine J_iload_n dX6_join_7 rfl ?_
    refine Jw_callV1 (q9 := (RX6, TX6, 7)) moX6_rowOf jw_ml_X6_55 jw_im_X6_rowOf jw_se_X6_rowOf ha0 rfl rfl dX6_join_8 (w_X6_rowOf_in (d - 1) _ a0 x2 hO_a0 hF_md hF_k ha_f (by omega) (by omega) (by omega) hfb) (by omega) (Nat.zero_le _) (Nat.zero_le _) (Nat.le_of_ble_eq_true rfl) (fun r8 V8 h8 => ?_)
    obtain ⟨rfl, hE8⟩ := h8
    have hE8 := hE8.symm
    subst hE8
    · refine J_astore dX6_join_11 rfl (by decide) ?_
      refine J_aload_nN dX6_join_13 rfl ?_
      refine J_ifnullN (tgt := 22) dX6_join_14 (by decide) ?_
      refine Jz_bipush (-2) dX6_join_22 (by decide) (fun y22 he22 => ?_)
      exact J_ret (r := some (.int _)) dX6_join_24 ⟨rfl, _, rfl, rfl⟩ (⟨⟨_, rfl, (j_rng _).1, (j_rng _).2, (by (try simp only [he22.eq, true_and, and_true]) <;> omega)⟩, rfl⟩)
set_option maxRecDepth 100000 in
set_option maxHeartbeats 8000000 in
theorem w_X6_place_out {tS : jTS} (d : Nat) (V0 : jH) (a0 : Nat) (x1 : Int32) (x2 : Int32) (x3 : Int32) (k : Int32) (md : Nat) (hd : 1 ≤ d) (hW : WT V0) (ha0 : jis V0 (.inr 4) a0) (hf_k : jfI V0 a0 4 1 k) (hr_md : jfR V0 a0 4 0 md) (hp0 : ¬ (0 ≤ x1.toInt ∧ x1.toInt < k.toInt)) : jTot tS mX6_place d [.ref a0, .int x1, .int x2, .int x3] V0 0 0 (fun r V => (fun r _ => ∃ y : Int32, r = some (.int y) ∧ ((-2147483648) ≤ y.toInt) ∧ (y.toInt ≤ 2147483647) ∧ (y.toInt = -1000)) r V ∧ V = V0) := by
  refine jTot.of_J [some (.ref a0), some (.int x1), some (.int x2), some (.int x3), none] moX6_place (Nat.le_of_ble_eq_true rfl) rfl ?_
  have hrx1 := j_rng x1
  have hrx2 := j_rng x2
  have hrx3 := j_rng x3
  have he : jeff [] V0 V0 := jeff.refl _ _
  obtain ⟨fs_a0, hO_a0, hK_a0⟩ := WT_obj hW id ha0
  have hF_k := hf_k.get hO_a0
  have hrk : 0 ≤ k.toInt ∧ k.toInt ≤ 16 := jok_rngI hK_a0 rfl hF_k
  have hF_md := hr_md.get hO_a0
  obtain ⟨w_md, hFq_md, b_md, hbq_md, hb_md⟩ := hK_a0.2 0 (.inr (some (.inl 4))) rfl
  cases hF_md.symm.trans (hFq_md.trans (congrArg some hbq_md))
  refine J_aload_n dX6_place_0 rfl ?_
  refine J_iload_n dX6_place_1 rfl ?_
  refine Jw_callV1 (q9 := (RX6, TX6, 7)) moX6_rowOf jw_ml_X6_55 jw_im_X6_rowOf jw_se_X6_rowOf ha0 rfl rfl dX6_place_2 (w_X6_rowOf_out (d - 1) _ a0 x1 hO_a0 hF_k (by omega)) (by omega) (Nat.zero_le _) (Nat.zero_le _) (Nat.le_of_ble_eq_true rfl) (fun r2 V2 h2 => ?_)
  obtain ⟨rfl, hE2⟩ := h2
  have hE2 := hE2.symm
  subst hE2
  · refine J_astoreN dX6_place_5 rfl (by decide) ?_
    refine J_aloadN dX6_place_7 rfl ?_
    refine J_ifnullN (tgt := 25) dX6_place_9 (by decide) ?_
    refine Jz_sipush (-1000) dX6_place_25 (by decide) (fun y25 he25 => ?_)
    exact J_ret (r := some (.int _)) dX6_place_28 ⟨rfl, _, rfl, rfl⟩ (⟨⟨_, rfl, (j_rng _).1, (j_rng _).2, (by (try simp only [he25.eq, true_and, and_true]) <;> omega)⟩, rfl⟩)
set_option maxRecDepth 100000 in
set_option maxHeartbeats 8000000 in
theorem w_X6_place_bad {tS : jTS} (d : Nat) (V0 : jH) (a0 : Nat) (x1 : Int32) (x2 : Int32) (x3 : Int32) (k : Int32) (md : Nat) (f : Nat → Option Nat) (ro : Nat) (M : Int32) (g : Int32) (n : Int32) (s : Nat) (xx : Nat) (yy : Nat) (zz : Nat) (S : Nat → Int32) (X : Nat → Int32) (Y : Nat → Int32) (Z : Nat → Int32) (hd : 1 ≤ d) (hW : WT V0) (ha0 : jis V0 (.inr 4) a0) (hf_k : jfI V0 a0 4 1 k) (hr_md : jfR V0 a0 4 0 md) (ha_f : V0 md = some (.inl (4, 16, .inr (.inr (.inr (.inr f)))))) (hf_M : jfI V0 ro 1 0 M) (hf_g : jfI V0 ro 1 5 g) (hf_n : jfI V0 ro 1 6 n) (hr_s : jfR V0 ro 1 1 s) (hr_xx : jfR V0 ro 1 2 xx) (hr_yy : jfR V0 ro 1 3 yy) (hr_zz : jfR V0 ro 1 4 zz) (ha_S : V0 s = some (.inl (6, 60, .inl S))) (ha_X : V0 xx = some (.inl (34, 61, .inl X))) (ha_Y : V0 yy = some (.inl (35, 61, .inl Y))) (ha_Z : V0 zz = some (.inl (36, 61, .inl Z))) (hm_ro : M.toInt = 60) (hn_ro : n.toInt ≤ 60) (hfo : f x1.toInt.toNat = some ro) (hp0 : 0 ≤ x1.toInt) (hp1 : x1.toInt < k.toInt) (hp2 : ¬ (0 ≤ x2.toInt ∧ x2.toInt ≤ n.toInt ∧ 0 ≤ x3.toInt ∧ x3.toInt ≤ 2)) : jTot tS mX6_place d [.ref a0, .int x1, .int x2, .int x3] V0 0 0 (fun r V => (fun r _ => ∃ y : Int32, r = some (.int y) ∧ ((-2147483648) ≤ y.toInt) ∧ (y.toInt ≤ 2147483647) ∧ (y.toInt = -1000)) r V ∧ V = V0) := by
  refine jTot.of_J [some (.ref a0), some (.int x1), some (.int x2), some (.int x3), none] moX6_place (Nat.le_of_ble_eq_true rfl) rfl ?_
  have hrx1 := j_rng x1
  have hrx2 := j_rng x2
  have hrx3 := j_rng x3
  have he : jeff [] V0 V0 := jeff.refl _ _
  obtain ⟨fs_a0, hO_a0, hK_a0⟩ := WT_obj hW id ha0
  have hF_k := hf_k.get hO_a0
  have hrk : 0 ≤ k.toInt ∧ k.toInt ≤ 16 := jok_rngI hK_a0 rfl hF_k
  have hF_md := hr_md.get hO_a0
  obtain ⟨w_md, hFq_md, b_md, hbq_md, hb_md⟩ := hK_a0.2 0 (.inr (some (.inl 4))) rfl
  cases hF_md.symm.trans (hFq_md.trans (congrArg some hbq_md))
  have hb_ro : jis V0 (.inr 1) ro := by obtain ⟨q1, q2, q3⟩ := hf_M; exact ⟨_, q2, rfl⟩
  obtain ⟨fs_ro, hO_ro, hK_ro⟩ := WT_obj hW id hb_ro
  have hF_M := hf_M.get hO_ro
  have hrM : 0 ≤ M.toInt ∧ M.toInt ≤ 120 := jok_rngI hK_ro rfl hF_M
  have hF_g := hf_g.get hO_ro
  have hrg : (-2147483648) ≤ g.toInt ∧ g.toInt ≤ 2147483647 := jok_rngI hK_ro rfl hF_g
  have hF_n := hf_n.get hO_ro
  have hrn : 0 ≤ n.toInt ∧ n.toInt ≤ 120 := jok_rngI hK_ro rfl hF_n
  have hF_s := hr_s.get hO_ro
  have hb_s : jis V0 (.inl 6) s := ⟨_, ha_S, rfl⟩
  obtain ⟨hN_S, hv_S⟩ := WT_rngI (r := (-2147483648, 2147483647)) hW id rfl ha_S
  clear hN_S
  have hF_xx := hr_xx.get hO_ro
  have hb_xx : jis V0 (.inl 34) xx := ⟨_, ha_X, rfl⟩
  obtain ⟨hN_X, hv_X⟩ := WT_rngI (r := (-2147483648, 2147483647)) hW id rfl ha_X
  clear hN_X
  have hF_yy := hr_yy.get hO_ro
  have hb_yy : jis V0 (.inl 35) yy := ⟨_, ha_Y, rfl⟩
  obtain ⟨hN_Y, hv_Y⟩ := WT_rngI (r := (-2147483648, 2147483647)) hW id rfl ha_Y
  clear hN_Y
  have hF_zz := hr_zz.get hO_ro
  have hb_zz : jis V0 (.inl 36) zz := ⟨_, ha_Z, rfl⟩
  obtain ⟨hN_Z, hv_Z⟩ := WT_rngI (r := (-2147483648, 2147483647)) hW id rfl ha_Z
  clear hN_Z
  refine J_aload_n dX6_place_0 rfl ?_
  refine J_iload_n dX6_place_1 rfl ?_
  refine Jw_callV1 (q9 := (RX6, TX6, 7)) moX6_rowOf jw_ml_X6_55 jw_im_X6_rowOf jw_se_X6_rowOf ha0 rfl rfl dX6_place_2 (w_X6_rowOf_in (d - 1) _ a0 x1 hO_a0 hF_md hF_k ha_f (by omega) (by omega) (by omega) hfo) (by omega) (Nat.zero_le _) (Nat.zero_le _) (Nat.le_of_ble_eq_true rfl) (fun r2 V2 h2 => ?_)
  obtain ⟨rfl, hE2⟩ := h2
  have hE2 := hE2.symm
  subst hE2
  · refine J_astore dX6_place_5 rfl (by decide) ?_
    refine J_aload dX6_place_7 rfl ?_
    refine J_ifnull dX6_place_9 ?_
    refine J_iload_n dX6_place_12 rfl ?_
    refine Jz_if_lt (tgt := 25) jEq.rf dX6_place_13 (by decide) (fun c13 => ?_) (fun c13 => ?_)
    · refine Jz_sipush (-1000) dX6_place_25 (by decide) (fun y25 he25 => ?_)
      exact J_ret (r := some (.int _)) dX6_place_28 ⟨rfl, _, rfl, rfl⟩ (⟨⟨_, rfl, (j_rng _).1, (j_rng _).2, (by (try simp only [he25.eq, true_and, and_true]) <;> omega)⟩, rfl⟩)
    · refine J_iload_n dX6_place_16 rfl ?_
      refine J_aload dX6_place_17 rfl ?_
      refine J_get jf_X6_69 dX6_place_19 hO_ro hF_n ?_
      refine Jz_icmp_le (tgt := 29) jEq.rf jEq.rf dX6_place_22 (by decide) (fun c22 => ?_) (fun c22 => ?_)
      · refine J_iload_n dX6_place_29 rfl ?_
        rcases jsw2 x3 with hx30 | hx30 | hx30 | hx30 | hx30
        · have hx30t : x3.toInt = 0 := by rw [hx30]; rfl
          clear hx30
          refine J_tableIn (tgt := 56) dX6_place_30 (by omega) (by omega) (by rw [hx30t]; rfl) (by decide) ?_
          exact False.elim (by omega)
        · have hx30t : x3.toInt = 1 := by rw [hx30]; rfl
          clear hx30
          refine J_tableIn (tgt := 66) dX6_place_30 (by omega) (by omega) (by rw [hx30t]; rfl) (by decide) ?_
          exact False.elim (by omega)
        · have hx30t : x3.toInt = 2 := by rw [hx30]; rfl
          clear hx30
          refine J_tableIn (tgt := 76) dX6_place_30 (by omega) (by omega) (by rw [hx30t]; rfl) (by decide) ?_
          exact False.elim (by omega)
        · refine J_tableOut (tgt := 86) dX6_place_30 (Or.inl hx30) (by decide) ?_
          refine Jz_sipush (-1000) dX6_place_86 (by decide) (fun y86 he86 => ?_)
          exact J_ret (r := some (.int _)) dX6_place_89 ⟨rfl, _, rfl, rfl⟩ (⟨⟨_, rfl, (j_rng _).1, (j_rng _).2, (by (try simp only [he86.eq, true_and, and_true]) <;> omega)⟩, rfl⟩)
        · refine J_tableOut (tgt := 86) dX6_place_30 (Or.inr hx30) (by decide) ?_
          refine Jz_sipush (-1000) dX6_place_86 (by decide) (fun y86 he86 => ?_)
          exact J_ret (r := some (.int _)) dX6_place_89 ⟨rfl, _, rfl, rfl⟩ (⟨⟨_, rfl, (j_rng _).1, (j_rng _).2, (by (try simp only [he86.eq, true_and, and_true]) <;> omega)⟩, rfl⟩)
      · refine Jz_sipush (-1000) dX6_place_25 (by decide) (fun y25 he25 => ?_)
        exact J_ret (r := some (.int _)) dX6_place_28 ⟨rfl, _, rfl, rfl⟩ (⟨⟨_, rfl, (j_rng _).1, (j_rng _).2, (by (try simp only [he25.eq, true_and, and_true]) <;> omega)⟩, rfl⟩)
set_option maxRecDepth 100000 in
set_option maxHeartbeats 8000000 in
theorem w_X6_place_ok {tS : jTS} (d : Nat) (V0 : jH) (a0 : Nat) (x1 : Int32) (x2 : Int32) (x3 : Int32) (k : Int32) (md : Nat) (f : Nat → Option Nat) (ro : Nat) (M : Int32) (g : Int32) (n : Int32) (s : Nat) (xx : Nat) (yy : Nat) (zz : Nat) (S : Nat → Int32) (X : Nat → Int32) (Y : Nat → Int32) (Z : Nat → Int32) (hd : 1 ≤ d) (hW : WT V0) (ha0 : jis V0 (.inr 4) a0) (hf_k : jfI V0 a0 4 1 k) (hr_md : jfR V0 a0 4 0 md) (ha_f : V0 md = some (.inl (4, 16, .inr (.inr (.inr (.inr f)))))) (hf_M : jfI V0 ro 1 0 M) (hf_g : jfI V0 ro 1 5 g) (hf_n : jfI V0 ro 1 6 n) (hr_s : jfR V0 ro 1 1 s) (hr_xx : jfR V0 ro 1 2 xx) (hr_yy : jfR V0 ro 1 3 yy) (hr_zz : jfR V0 ro 1 4 zz) (ha_S : V0 s = some (.inl (6, 60, .inl S))) (ha_X : V0 xx = some (.inl (34, 61, .inl X))) (ha_Y : V0 yy = some (.inl (35, 61, .inl Y))) (ha_Z : V0 zz = some (.inl (36, 61, .inl Z))) (hm_ro : M.toInt = 60) (hn_ro : n.toInt ≤ 60) (hfo : f x1.toInt.toNat = some ro) (hp0 : 0 ≤ x1.toInt) (hp1 : x1.toInt < k.toInt) (hp2 : 0 ≤ x2.toInt) (hp3 : x2.toInt ≤ n.toInt) (hp4 : 0 ≤ x3.toInt) (hp5 : x3.toInt ≤ 2) : jTot tS mX6_place d [.ref a0, .int x1, .int x2, .int x3] V0 0 0 (fun r V => (fun r _ => ∃ y : Int32, r = some (.int y) ∧ ((-2147483648) ≤ y.toInt) ∧ (y.toInt ≤ 2147483647) ∧ ((x3.toInt = 0 ∧ y.toInt = (X x2.toInt.toNat).toInt) ∨ (x3.toInt = 1 ∧ y.toInt = (Y x2.toInt.toNat).toInt) ∨ (x3.toInt = 2 ∧ y.toInt = (Z x2.toInt.toNat).toInt))) r V ∧ V = V0) := by
  refine jTot.of_J [some (.ref a0), some (.int x1), some (.int x2), some (.int x3), none] moX6_place (Nat.le_of_ble_eq_true rfl) rfl ?_
  have hrx1 := j_rng x1
  have hrx2 := j_rng x2
  have hrx3 := j_rng x3
  have he : jeff [] V0 V0 := jeff.refl _ _
  obtain ⟨fs_a0, hO_a0, hK_a0⟩ := WT_obj hW id ha0
  have hF_k := hf_k.get hO_a0
  have hrk : 0 ≤ k.toInt ∧ k.toInt ≤ 16 := jok_rngI hK_a0 rfl hF_k
  have hF_md := hr_md.get hO_a0
  obtain ⟨w_md, hFq_md, b_md, hbq_md, hb_md⟩ := hK_a0.2 0 (.inr (some (.inl 4))) rfl
  cases hF_md.symm.trans (hFq_md.trans (congrArg some hbq_md))
  have hb_ro : jis V0 (.inr 1) ro := by obtain ⟨q1, q2, q3⟩ := hf_M; exact ⟨_, q2, rfl⟩
  obtain ⟨fs_ro, hO_ro, hK_ro⟩ := WT_obj hW id hb_ro
  have hF_M := hf_M.get hO_ro
  have hrM : 0 ≤ M.toInt ∧ M.toInt ≤ 120 := jok_rngI hK_ro rfl hF_M
  have hF_g := hf_g.get hO_ro
  have hrg : (-2147483648) ≤ g.toInt ∧ g.toInt ≤ 2147483647 := jok_rngI hK_ro rfl hF_g
  have hF_n := hf_n.get hO_ro
  have hrn : 0 ≤ n.toInt ∧ n.toInt ≤ 120 := jok_rngI hK_ro rfl hF_n
  have hF_s := hr_s.get hO_ro
  have hb_s : jis V0 (.inl 6) s := ⟨_, ha_S, rfl⟩
  obtain ⟨hN_S, hv_S⟩ := WT_rngI (r := (-2147483648, 2147483647)) hW id rfl ha_S
  clear hN_S
  have hF_xx := hr_xx.get hO_ro
  have hb_xx : jis V0 (.inl 34) xx := ⟨_, ha_X, rfl⟩
  obtain ⟨hN_X, hv_X⟩ := WT_rngI (r := (-2147483648, 2147483647)) hW id rfl ha_X
  clear hN_X
  have hF_yy := hr_yy.get hO_ro
  have hb_yy : jis V0 (.inl 35) yy := ⟨_, ha_Y, rfl⟩
  obtain ⟨hN_Y, hv_Y⟩ := WT_rngI (r := (-2147483648, 2147483647)) hW id rfl ha_Y
  clear hN_Y
  have hF_zz := hr_zz.get hO_ro
  have hb_zz : jis V0 (.inl 36) zz := ⟨_, ha_Z, rfl⟩
  obtain ⟨hN_Z, hv_Z⟩ := WT_rngI (r := (-2147483648, 2147483647)) hW id rfl ha_Z
  clear hN_Z
  refine J_aload_n dX6_place_0 rfl ?_
  refine J_iload_n dX6_place_1 rfl ?_
  refine Jw_callV1 (q9 := (RX6, TX6, 7)) moX6_rowOf jw_ml_X6_55 jw_im_X6_rowOf jw_se_X6_rowOf ha0 rfl rfl dX6_place_2 (w_X6_rowOf_in (d - 1) _ a0 x1 hO_a0 hF_md hF_k ha_f (by omega) (by omega) (by omega) hfo) (by omega) (Nat.zero_le _) (Nat.zero_le _) (Nat.le_of_ble_eq_true rfl) (fun r2 V2 h2 => ?_)
  obtain ⟨rfl, hE2⟩ := h2
  have hE2 := hE2.symm
  subst hE2
  · refine J_astore dX6_place_5 rfl (by decide) ?_
    refine J_aload dX6_place_7 rfl ?_
    refine J_ifnull dX6_place_9 ?_
    refine J_iload_n dX6_place_12 rfl ?_
    refine Jz_if_lt (tgt := 25) jEq.rf dX6_place_13 (by decide) (fun c13 => ?_) (fun c13 => ?_)
    · exact False.elim (by omega)
    · refine J_iload_n dX6_place_16 rfl ?_
      refine J_aload dX6_place_17 rfl ?_
      refine J_get jf_X6_69 dX6_place_19 hO_ro hF_n ?_
      refine Jz_icmp_le (tgt := 29) jEq.rf jEq.rf dX6_place_22 (by decide) (fun c22 => ?_) (fun c22 => ?_)
      · refine J_iload_n dX6_place_29 rfl ?_
        rcases jsw2 x3 with hx30 | hx30 | hx30 | hx30 | hx30
        · have hx30t : x3.toInt = 0 := by rw [hx30]; rfl
          clear hx30
          refine J_tableIn (tgt := 56) dX6_place_30 (by omega) (by omega) (by rw [hx30t]; rfl) (by decide) ?_
          refine J_aload dX6_place_56 rfl ?_
          refine J_get jf_X6_107 dX6_place_58 hO_ro hF_xx ?_
          refine J_iload_n dX6_place_61 rfl ?_
          refine J_callS2 moX6_cell jw_ml_X6_110 jw_st_X6_cell dX6_place_62 (w_X6_cell_x (d - 1) _ xx x2 ha_X (WT_rngI (r := (-2147483648, 2147483647)) hW id rfl ha_X).1 rfl (by omega) (by omega)) (by omega) (Nat.zero_le _) (Nat.zero_le _) (Nat.le_of_ble_eq_true rfl) (fun r62 V62 h62 => ?_)
          obtain ⟨⟨y62, rfl, hf62⟩, hE62⟩ := h62
          have hE62 := hE62.symm
          subst hE62
          have hz62 : jEq y62.toInt (X (x2.toInt).toNat).toInt := by rw [← hf62]; rfl
          clear hf62
          · exact J_ret (r := some (.int _)) dX6_place_65 ⟨rfl, _, rfl, rfl⟩ (⟨⟨_, rfl, (j_rng _).1, (j_rng _).2, (by (try simp only [hz62.eq, true_and, and_true]) <;> omega)⟩, rfl⟩)
        · have hx30t : x3.toInt = 1 := by rw [hx30]; rfl
          clear hx30
          refine J_tableIn (tgt := 66) dX6_place_30 (by omega) (by omega) (by rw [hx30t]; rfl) (by decide) ?_
          refine J_aload dX6_place_66 rfl ?_
          refine J_get jf_X6_114 dX6_place_68 hO_ro hF_yy ?_
          refine J_iload_n dX6_place_71 rfl ?_
          refine J_callS2 moX6_cell jw_ml_X6_110 jw_st_X6_cell dX6_place_72 (w_X6_cell_x (d - 1) _ yy x2 ha_Y (WT_rngI (r := (-2147483648, 2147483647)) hW id rfl ha_Y).1 rfl (by omega) (by omega)) (by omega) (Nat.zero_le _) (Nat.zero_le _) (Nat.le_of_ble_eq_true rfl) (fun r72 V72 h72 => ?_)
          obtain ⟨⟨y72, rfl, hf72⟩, hE72⟩ := h72
          have hE72 := hE72.symm
          subst hE72
          have hz72 : jEq y72.toInt (Y (x2.toInt).toNat).toInt := by rw [← hf72]; rfl
          clear hf72
          · exact J_ret (r := some (.int _)) dX6_place_75 ⟨rfl, _, rfl, rfl⟩ (⟨⟨_, rfl, (j_rng _).1, (j_rng _).2, (by (try simp only [hz72.eq, true_and, and_true]) <;> omega)⟩, rfl⟩)
        · have hx30t : x3.toInt = 2 := by rw [hx30]; rfl
          clear hx30
          refine J_tableIn (tgt := 76) dX6_place_30 (by omega) (by omega) (by rw [hx30t]; rfl) (by decide) ?_
          refine J_aload dX6_place_76 rfl ?_
          refine J_get jf_X6_117 dX6_place_78 hO_ro hF_zz ?_
          refine J_iload_n dX6_place_81 rfl ?_
          refine J_callS2 moX6_cell jw_ml_X6_110 jw_st_X6_cell dX6_place_82 (w_X6_cell_x (d - 1) _ zz x2 ha_Z (WT_rngI (r := (-2147483648, 2147483647)) hW id rfl ha_Z).1 rfl (by omega) (by omega)) (by omega) (Nat.zero_le _) (Nat.zero_le _) (Nat.le_of_ble_eq_true rfl) (fun r82 V82 h82 => ?_)
          obtain ⟨⟨y82, rfl, hf82⟩, hE82⟩ := h82
          have hE82 := hE82.symm
          subst hE82
          have hz82 : jEq y82.toInt (Z (x2.toInt).toNat).toInt := by rw [← hf82]; rfl
          clear hf82
          · exact J_ret (r := some (.int _)) dX6_place_85 ⟨rfl, _, rfl, rfl⟩ (⟨⟨_, rfl, (j_rng _).1, (j_rng _).2, (by (try simp only [hz82.eq, true_and, and_true]) <;> omega)⟩, rfl⟩)
        · refine J_tableOut (tgt := 86) dX6_place_30 (Or.inl hx30) (by decide) ?_
          exact False.elim (by omega)
        · refine J_tableOut (tgt := 86) dX6_place_30 (Or.inr hx30) (by decide) ?_
          exact False.elim (by omega)
      · exact False.elim (by omega)
set_option maxRecDepth 100000 in
set_option maxHeartbeats 8000000 in
theorem w_X3_digestOnto_z {tS : jTS} (d : Nat) (V0 : jH) {ln : Nat} (a0 : Nat) (x1 : Int64) (M : Int32) (g : Int32) (n : Int32) (s : Nat) (xx : Nat) (yy : Nat) (zz : Nat) (S : Nat → Int32) (X : Nat → Int32) (Y : Nat → Int32) (Z : Nat → Int32) (hd : 2 ≤ d) (hW : WT V0) (ha0 : jis V0 (.inr 1) a0) (hf_M : jfI V0 a0 1 0 M) (hf_g : jfI V0 a0 1 5 g) (hf_n : jfI V0 a0 1 6 n) (hr_s : jfR V0 a0 1 1 s) (hr_xx : jfR V0 a0 1 2 xx) (hr_yy : jfR V0 a0 1 3 yy) (hr_zz : jfR V0 a0 1 4 zz) (ha_S : V0 s = some (.inl (6, ln, .inl S))) (ha_X : V0 xx = some (.inl (34, ln + 1, .inl X))) (ha_Y : V0 yy = some (.inl (35, ln + 1, .inl Y))) (ha_Z : V0 zz = some (.inl (36, ln + 1, .inl Z))) (hp0 : M.toInt = (ln : Int)) (hp1 : (ln : Int) ≤ 120) (hp2 : n.toInt ≤ M.toInt) : jTot tS mX3_digestOnto d [.ref a0, .long x1] V0 0 0 (fun r V => (fun r _ => ∃ y : Int64, r = some (.long y) ∧ (y = jdg S n.toInt.toNat (31 * x1 + g.toInt64))) r V ∧ V = V0) := by
  refine jTot.of_J [some (.ref a0), some (.long x1), none, none, none, none] moX3_digestOnto (Nat.le_of_ble_eq_true rfl) rfl ?_
  have he : jeff [] V0 V0 := jeff.refl _ _
  obtain ⟨fs_a0, hO_a0, hK_a0⟩ := WT_obj hW id ha0
  have hF_M := hf_M.get hO_a0
  have hrM : 0 ≤ M.toInt ∧ M.toInt ≤ 120 := jok_rngI hK_a0 rfl hF_M
  have hF_g := hf_g.get hO_a0
  have hrg : (-2147483648) ≤ g.toInt ∧ g.toInt ≤ 2147483647 := jok_rngI hK_a0 rfl hF_g
  have hF_n := hf_n.get hO_a0
  have hrn : 0 ≤ n.toInt ∧ n.toInt ≤ 120 := jok_rngI hK_a0 rfl hF_n
  have hF_s := hr_s.get hO_a0
  obtain ⟨w_s, hFq_s, b_s, hbq_s, hb_s⟩ := hK_a0.2 1 (.inr (some (.inl 6))) rfl
  cases hF_s.symm.trans (hFq_s.trans (congrArg some hbq_s))
  have hF_xx := hr_xx.get hO_a0
  obtain ⟨w_xx, hFq_xx, b_xx, hbq_xx, hb_xx⟩ := hK_a0.2 2 (.inr (some (.inl 34))) rfl
  cases hF_xx.symm.trans (hFq_xx.trans (congrArg some hbq_xx))
  have hF_yy := hr_yy.get hO_a0
  obtain ⟨w_yy, hFq_yy, b_yy, hbq_yy, hb_yy⟩ := hK_a0.2 3 (.inr (some (.inl 35))) rfl
  cases hF_yy.symm.trans (hFq_yy.trans (congrArg some hbq_yy))
  have hF_zz := hr_zz.get hO_a0
  obtain ⟨w_zz, hFq_zz, b_zz, hbq_zz, hb_zz⟩ := hK_a0.2 4 (.inr (some (.inl 36))) rfl
  cases hF_zz.symm.trans (hFq_zz.trans (congrArg some hbq_zz))
  obtain ⟨hN_S, hv_S⟩ := WT_rngI (r := ((-2147483648), 2147483647)) hW id rfl ha_S
  clear hN_S
  obtain ⟨hN_X, hv_X⟩ := WT_rngI (r := ((-2147483648), 2147483647)) hW id rfl ha_X
  clear hN_X
  obtain ⟨hN_Y, hv_Y⟩ := WT_rngI (r := ((-2147483648), 2147483647)) hW id rfl ha_Y
  clear hN_Y
  obtain ⟨hN_Z, hv_Z⟩ := WT_rngI (r := ((-2147483648), 2147483647)) hW id rfl ha_Z
  clear hN_Z
  refine J_ldc2 jw_k_X3_95 dX3_digestOnto_0 ?_
  refine J_lload_n dX3_digestOnto_3 rfl ?_
  refine J_lmul dX3_digestOnto_4 ?_
  refine J_aload_n dX3_digestOnto_5 rfl ?_
  refine J_get jf_X3_9 dX3_digestOnto_6 hO_a0 hF_g ?_
  refine J_i2l dX3_digestOnto_9 rfl ?_
  refine J_ladd dX3_digestOnto_10 ?_
  refine J_lstore_n dX3_digestOnto_11 rfl (by decide) ?_
  refine Jz_iconst 0 dX3_digestOnto_12 (by decide) (fun y12 he12 => ?_)
  refine J_istore dX3_digestOnto_13 rfl (by decide) ?_
  have L15 : ∀ (N : Nat) (i3n15 : Int64) (i5n15 : Int32), (0 ≤ i5n15.toInt ∧ i5n15.toInt ≤ n.toInt) → (i3n15 = jdg S i5n15.toInt.toNat (31 * x1 + g.toInt64)) → (300 - i5n15.toInt).toNat < N → J tS mX3_digestOnto d 15 [some (.ref a0), some (.long x1), none, some (.long i3n15), none, some (.int i5n15)] [] V0 0 0 (fun r V => (fun r _ => ∃ y : Int64, r = some (.long y) ∧ (y = jdg S n.toInt.toNat (31 * x1 + g.toInt64))) r V ∧ V = V0) := by
    intro N
    induction N with
    | zero => intro i3n15 i5n15  hi5 hh hm; exact absurd hm (Nat.not_lt_zero _)
    | succ N ih =>
      intro i3n15 i5n15  hi5 hh hm
      have ih15 := ih
      have hri5 := j_rng i5n15
      refine J_iload dX3_digestOnto_15 rfl ?_
      refine J_aload_n dX3_digestOnto_17 rfl ?_
      refine J_get jf_X3_15 dX3_digestOnto_18 hO_a0 hF_n ?_
      refine Jz_icmp_ge (tgt := 44) jEq.rf jEq.rf dX3_digestOnto_21 (by decide) (fun c21 => ?_) (fun c21 => ?_)
      · refine J_lload_n dX3_digestOnto_44 rfl ?_
        exact J_ret (r := some (.long _)) dX3_digestOnto_45 ⟨rfl, rfl⟩ (⟨⟨_, rfl, (by rw [show n.toInt.toNat = i5n15.toInt.toNat by omega]; exact hh)⟩, rfl⟩)
      · refine J_ldc2 jw_k_X3_95 dX3_digestOnto_24 ?_
        refine J_lload_n dX3_digestOnto_27 rfl ?_
        refine J_lmul dX3_digestOnto_28 ?_
        refine J_aload_n dX3_digestOnto_29 rfl ?_
        refine J_iload dX3_digestOnto_30 rfl ?_
        refine Jw_callV1 (q9 := (RX3, TX3, 7)) moX3_direction jw_ml_X3_89 jw_im_X3_direction jw_se_X3_direction ha0 rfl rfl dX3_digestOnto_32 (w_X3_direction_z (d - 1) _ a0 i5n15 s S (by omega) hW  ha0 ⟨_, hO_a0, hF_s⟩ ha_S (by omega) (by omega) (by omega)) (by omega) (Nat.zero_le _) (Nat.zero_le _) (Nat.le_of_ble_eq_true rfl) (fun r32 V32 h32 => ?_)
        obtain ⟨⟨y32, rfl, hl32, hh32, hP32_0⟩, hE32⟩ := h32
        have hE32 := hE32.symm
        subst hE32
        clear hl32 hh32
        have hz32 : jEq y32.toInt ((S (i5n15.toInt).toNat).toInt) := hP32_0
        clear hP32_0
        refine J_i2l dX3_digestOnto_35 rfl ?_
        refine J_ladd dX3_digestOnto_36 ?_
        refine J_lstore_n dX3_digestOnto_37 rfl (by decide) ?_
        refine Jz_iinc 1 dX3_digestOnto_38 rfl rfl (by decide) jEq.rf (by decide) (by omega) (by omega) (fun y38 he38 => ?_)
        refine J_goto (tgt := 15) dX3_digestOnto_41 (by decide) ?_
        refine J.mask [true, true, false, true, false, true] ?_
        exact ih15  (((31 : Int64) * i3n15) + y32.toInt64) y38  (by (try simp only [he38.eq, true_and, and_true]) <;> omega) (by rw [he38.eq, show (i5n15.toInt + 1).toNat = i5n15.toInt.toNat + 1 by omega]; show _ = 31 * jdg S i5n15.toInt.toNat _ + (S i5n15.toInt.toNat).toInt64; rw [← hh, jI_inj.mp hz32.eq]) (by (try simp only [he38.eq, true_and, and_true]) <;> omega)
  refine J.mask [true, true, false, true, false, true] ?_
  exact L15 _  (((31 : Int64) * x1) + g.toInt64) y12    (by (try simp only [he12.eq, true_and, and_true]) <;> omega) (by rw [he12.eq]; rfl) (Nat.lt_succ_self _)
set_option maxRecDepth 100000 in
set_option maxHeartbeats 8000000 in
theorem w_X2_digestOnto_z {tS : jTS} (d : Nat) (V0 : jH) (a0 : Nat) (x1 : Int64) (w1 : Int32) (h1 : Int32) (op : Int64) (hd : 3 ≤ d) (hW : WT V0) (ha0 : jis V0 (.inr 0) a0) (hf_w1 : jfI V0 a0 0 1 w1) (hf_h1 : jfI V0 a0 0 2 h1) (hq_op : jfL V0 a0 0 3 op) (hp0 : 2 ≤ w1.toInt) (hp1 : w1.toInt ≤ 6) (hp2 : 2 ≤ h1.toInt) (hp3 : h1.toInt ≤ 6) : jTot tS mX2_digestOnto d [.ref a0, .long x1] V0 0 0 (fun r V => (fun r _ => ∃ y : Int64, r = some (.long y) ∧ (y = jdh (fun q : Nat => !jbt op (9 + q % w1.toInt.toNat + 8 * (q / w1.toInt.toNat))) (w1.toInt.toNat * h1.toInt.toNat) x1)) r V ∧ V = V0) := by
  refine jTot.of_J [some (.ref a0), some (.long x1), none, none, none, none, none] moX2_digestOnto (Nat.le_of_ble_eq_true rfl) rfl ?_
  have he : jeff [] V0 V0 := jeff.refl _ _
  obtain ⟨fs_a0, hO_a0, hK_a0⟩ := WT_obj hW id ha0
  have hF_w1 := hf_w1.get hO_a0
  have hrw1 : (-2147483648) ≤ w1.toInt ∧ w1.toInt ≤ 2147483647 := jok_rngI hK_a0 rfl hF_w1
  have hF_h1 := hf_h1.get hO_a0
  have hrh1 : (-2147483648) ≤ h1.toInt ∧ h1.toInt ≤ 2147483647 := jok_rngI hK_a0 rfl hF_h1
  have hF_op := hq_op.get hO_a0
  refine J_lload_n dX2_digestOnto_0 rfl ?_
  refine J_lstore_n dX2_digestOnto_1 rfl (by decide) ?_
  refine Jz_iconst 0 dX2_digestOnto_2 (by decide) (fun y2 he2 => ?_)
  refine J_istore dX2_digestOnto_3 rfl (by decide) ?_
  have L5 : ∀ (N : Nat) (i3n5 : Int64) (i5n5 : Int32), (0 ≤ i5n5.toInt ∧ i5n5.toInt ≤ h1.toInt) → (i3n5 = jdh (fun q : Nat => !jbt op (9 + q % w1.toInt.toNat + 8 * (q / w1.toInt.toNat))) (w1.toInt.toNat * i5n5.toInt.toNat) x1) → (300 - i5n5.toInt).toNat < N → J tS mX2_digestOnto d 5 [some (.ref a0), some (.long x1), none, some (.long i3n5), none, some (.int i5n5), none] [] V0 0 0 (fun r V => (fun r _ => ∃ y : Int64, r = some (.long y) ∧ (y = jdh (fun q : Nat => !jbt op (9 + q % w1.toInt.toNat + 8 * (q / w1.toInt.toNat))) (w1.toInt.toNat * h1.toInt.toNat) x1)) r V ∧ V = V0) := by
    intro N
    induction N with
    | zero => intro i3n5 i5n5  hi5 hh hm; exact absurd hm (Nat.not_lt_zero _)
    | succ N ih =>
      intro i3n5 i5n5  hi5 hh hm
      have ih5 := ih
      have hri5 := j_rng i5n5
      refine J_iload dX2_digestOnto_5 rfl ?_
      refine J_aload_n dX2_digestOnto_7 rfl ?_
      refine J_get jf_X2_19 dX2_digestOnto_8 hO_a0 hF_h1 ?_
      refine Jz_icmp_ge (tgt := 67) jEq.rf jEq.rf dX2_digestOnto_11 (by decide) (fun c11 => ?_) (fun c11 => ?_)
      · refine J_lload_n dX2_digestOnto_67 rfl ?_
        exact J_ret (r := some (.long _)) dX2_digestOnto_68 ⟨rfl, rfl⟩ (⟨⟨_, rfl, (by rw [show h1.toInt.toNat = i5n5.toInt.toNat by omega]; exact hh)⟩, rfl⟩)
      · refine Jz_iconst 0 dX2_digestOnto_14 (by decide) (fun y14 he14 => ?_)
        refine J_istore dX2_digestOnto_15 rfl (by decide) ?_
        have L17 : ∀ (N : Nat) (i3n17 : Int64) (i6n17 : Int32), (0 ≤ i6n17.toInt ∧ i6n17.toInt ≤ w1.toInt) → (i3n17 = jdh (fun q : Nat => !jbt op (9 + q % w1.toInt.toNat + 8 * (q / w1.toInt.toNat))) (w1.toInt.toNat * i5n5.toInt.toNat + i6n17.toInt.toNat) x1) → (300 - i6n17.toInt).toNat < N → J tS mX2_digestOnto d 17 [some (.ref a0), some (.long x1), none, some (.long i3n17), none, some (.int i5n5), some (.int i6n17)] [] V0 0 0 (fun r V => (fun r _ => ∃ y : Int64, r = some (.long y) ∧ (y = jdh (fun q : Nat => !jbt op (9 + q % w1.toInt.toNat + 8 * (q / w1.toInt.toNat))) (w1.toInt.toNat * h1.toInt.toNat) x1)) r V ∧ V = V0) := by
          intro N
          induction N with
          | zero => intro i3n17 i6n17  hi6 hh6 hm; exact absurd hm (Nat.not_lt_zero _)
          | succ N ih =>
            intro i3n17 i6n17  hi6 hh6 hm
            have ih17 := ih
            have hri6 := j_rng i6n17
            refine J_iload dX2_digestOnto_17 rfl ?_
            refine J_aload_n dX2_digestOnto_19 rfl ?_
            refine J_get jf_X2_15 dX2_digestOnto_20 hO_a0 hF_w1 ?_
            refine Jz_icmp_ge (tgt := 61) jEq.rf jEq.rf dX2_digestOnto_23 (by decide) (fun c23 => ?_) (fun c23 => ?_)
            · refine Jz_iinc 1 dX2_digestOnto_61 rfl rfl (by decide) jEq.rf (by decide) (by omega) (by omega) (fun y61 he61 => ?_)
              refine J_goto (tgt := 5) dX2_digestOnto_64 (by decide) ?_
              refine J.mask [true, true, false, true, false, true, false] ?_
              exact ih5  i3n17 y61  (by (try simp only [he61.eq, true_and, and_true]) <;> omega) (by rw [he61.eq, show (i5n5.toInt + 1).toNat = i5n5.toInt.toNat + 1 by omega, Nat.mul_add, Nat.mul_one, show w1.toInt.toNat = i6n17.toInt.toNat by omega] ; rw [show i6n17.toInt.toNat = w1.toInt.toNat by omega] ; rw [show w1.toInt.toNat * i5n5.toInt.toNat + w1.toInt.toNat = w1.toInt.toNat * i5n5.toInt.toNat + i6n17.toInt.toNat by omega]; exact hh6) (by (try simp only [he61.eq, true_and, and_true]) <;> omega)
            · refine J_aload_n dX2_digestOnto_26 rfl ?_
              refine J_iload dX2_digestOnto_27 rfl ?_
              refine J_iload dX2_digestOnto_29 rfl ?_
              refine Jw_callV2 (q9 := (RX2, TX2, 9)) moX2_isHole jw_ml_X2_79 jw_im_X2_isHole jw_se_X2_isHole ha0 rfl rfl dX2_digestOnto_31 (w_X2_isHole_z (d - 1) _ a0 i6n17 i5n5 op (by omega) hW  ha0 ⟨_, hO_a0, hF_op⟩ (by omega) (by omega) (by omega) (by omega)) (by omega) (Nat.zero_le _) (Nat.zero_le _) (Nat.le_of_ble_eq_true rfl) (fun r31 V31 h31 => ?_)
              obtain ⟨⟨y31, rfl, hl31, hh31, hI31_0, hI31_1⟩, hE31⟩ := h31
              have hE31 := hE31.symm
              subst hE31
              have hdm := jdivmod (w := w1.toInt.toNat) (x := i6n17.toInt.toNat) (y := i5n5.toInt.toNat) (by omega)
              have hnx : 9 + i6n17.toInt.toNat + 8 * i5n5.toInt.toNat = (9 + i6n17.toInt + 8 * i5n5.toInt).toNat := by omega
              have hml := Nat.mul_le_mul (show w1.toInt.toNat ≤ 6 by omega) (show i5n5.toInt.toNat ≤ 5 by omega)
              have hmc := jcell_nat2 (w := w1.toInt) (y := i5n5.toInt) (by omega) (by omega)
              refine Jz_if_eq (tgt := 55) jEq.rf dX2_digestOnto_34 (by decide) (fun c34 => ?_) (fun c34 => ?_)
              · have q34_1 := hI31_1.of (by omega)
                refine Jz_iinc 1 dX2_digestOnto_55 rfl rfl (by decide) jEq.rf (by decide) (by omega) (by omega) (fun y55 he55 => ?_)
                refine J_goto (tgt := 17) dX2_digestOnto_58 (by decide) ?_
                refine J.mask [true, true, false, true, false, true, true] ?_
                exact ih17  i3n17 y55  (by (try simp only [he55.eq, true_and, and_true]) <;> omega) (by rw [he55.eq, show (i6n17.toInt + 1).toNat = i6n17.toInt.toNat + 1 by omega, ← Nat.add_assoc, jdh_no (by rw [hdm.1, hdm.2, hnx, hI31_1.of (by omega)]; rfl)]; exact hh6) (by (try simp only [he55.eq, true_and, and_true]) <;> omega)
              · have q34_0 := hI31_0.of (by omega)
                refine J_ldc2 jw_k_X2_83 dX2_digestOnto_37 ?_
                refine J_lload_n dX2_digestOnto_40 rfl ?_
                refine J_lmul dX2_digestOnto_41 ?_
                refine J_iload dX2_digestOnto_42 rfl ?_
                refine J_aload_n dX2_digestOnto_44 rfl ?_
                refine J_get jf_X2_15 dX2_digestOnto_45 hO_a0 hF_w1 ?_
                refine J_iload dX2_digestOnto_48 rfl ?_
                refine Jz_imul jEq.rf jEq.rf dX2_digestOnto_50 (by omega) (by omega) (fun y50 he50 => ?_)
                refine Jz_iadd jEq.rf he50 dX2_digestOnto_51 (by omega) (by omega) (fun y51 he51 => ?_)
                refine J_i2l dX2_digestOnto_52 rfl ?_
                refine J_ladd dX2_digestOnto_53 ?_
                refine J_lstore_n dX2_digestOnto_54 rfl (by decide) ?_
                refine Jz_iinc 1 dX2_digestOnto_55 rfl rfl (by decide) jEq.rf (by decide) (by omega) (by omega) (fun y55 he55 => ?_)
                refine J_goto (tgt := 17) dX2_digestOnto_58 (by decide) ?_
                refine J.mask [true, true, false, true, false, true, true] ?_
                exact ih17  (((31 : Int64) * i3n17) + y51.toInt64) y55  (by (try simp only [he55.eq, true_and, and_true]) <;> omega) (by rw [he55.eq, show (i6n17.toInt + 1).toNat = i6n17.toInt.toNat + 1 by omega, ← Nat.add_assoc, jdh_yes (v := y51) (by rw [hdm.1, hdm.2, hnx, hI31_0.of (by omega)]; rfl) (by rw [he51.eq]; push_cast; omega) (by omega), ← hh6]) (by (try simp only [he55.eq, true_and, and_true]) <;> omega)
        refine J.mask [true, true, false, true, false, true, true] ?_
        exact L17 _  i3n5 y14    (by (try simp only [he14.eq, true_and, and_true]) <;> omega) (by rw [he14.eq]; exact hh) (Nat.lt_succ_self _)
  refine J.mask [true, true, false, true, false, true, false] ?_
  exact L5 _  x1 y2    (by (try simp only [he2.eq, true_and, and_true]) <;> omega) (by rw [he2.eq]; rfl) (Nat.lt_succ_self _)
set_option maxRecDepth 100000 in
set_option maxHeartbeats 4000000 in
theorem w_X2_init {tS : jTS} (d : Nat) (V0 : jH) (p : Nat → Prop) (q : Nat)  (hd : 3 ≤ d) (hW : WTx (fun a => p a ∨ a = q) V0) (hq : V0 q = some (.inr (0, [.null, .int 0, .int 0, .long 0, .int 0, .int 0, .int 0, .int 0, .int 0]))) (hnp : ¬ p q)   : jTot tS mX2_init d [.ref q] V0 1 36 (fun r V => r = none ∧ WTx p V ∧ jeff [.inr 0] V0 V ∧ jis V (.inr 0) q ∧ (jpl0 V q)) := by
  refine jTot.of_J [some (.ref q)] moX2_init (Nat.le_of_ble_eq_true rfl) rfl ?_
  have he : jeff [.inr 0] V0 V0 := jeff.refl _ _
  refine J_aload_n dX2_init_0 rfl ?_
  refine J_objInit jw_ml_X2_5 jw_oi2 jw_oi3 dX2_init_1 (by omega) (Nat.le_of_ble_eq_true rfl) ?_
  refine J_aload_n dX2_init_4 rfl ?_
  refine J_bipush (v := 36) dX2_init_5 (by decide) ?_
  refine Jc_newa (atype := .int) (t := 12) (B := 36) (x := .inl (fun _ => 0)) jw_ac_int rfl (fun _ h => by cases h) (by decide) dX2_init_7 (by decide) (by decide) (by decide) (fun _ _ => rfl) (fun hN => jok_zI rfl (by decide) (by decide) (fun m h => by cases h <;> rfl) hN) (by decide) (by decide) hW (fun b7 V7 hn7 hb7 hk7 hW hx7 => ?_)
  have hz7 := he.1.none hn7
  have he := he.trans (hx7.sub (jsub_of rfl))
  have hq := hk7 _ _ hq
  refine Jc_putF jf_X2_11 jt_X2_0 rfl (fun _ h => by cases h; rfl) dX2_init_9 hq rfl rfl (Nat.le_of_ble_eq_true rfl) (fun _ h => by cases h) hW (fun V9 hq hW hx9 hB9 => ?_)
  have he := he.trans (hx9.sub (jsub_of rfl))
  have hb7 := hb7.mono hx9.1
  refine J_aload_n dX2_init_12 rfl ?_
  refine J_iconst (v := 2) dX2_init_13 (by decide) ?_
  refine Jc_put jf_X2_15 jt_X2_1 dX2_init_14 hq rfl rfl (Nat.le_of_ble_eq_true rfl) (fun _ h => by cases h) hW (fun V14 hq hW hx14 hB14 => ?_)
  have he := he.trans (hx14.sub (jsub_of rfl))
  have hb7 := hb7.mono hx14.1
  refine J_aload_n dX2_init_17 rfl ?_
  refine J_iconst (v := 2) dX2_init_18 (by decide) ?_
  refine Jc_put jf_X2_19 jt_X2_2 dX2_init_19 hq rfl rfl (Nat.le_of_ble_eq_true rfl) (fun _ h => by cases h) hW (fun V19 hq hW hx19 hB19 => ?_)
  have he := he.trans (hx19.sub (jsub_of rfl))
  have hb7 := hb7.mono hx19.1
  refine J_aload_n dX2_init_22 rfl ?_
  refine J_lconst (v := 0) dX2_init_23 rfl ?_
  refine Jc_put jf_X2_22 jt_X2_3 dX2_init_24 hq rfl rfl (Nat.le_of_ble_eq_true rfl) (fun _ h => by cases h) hW (fun V24 hq hW hx24 hB24 => ?_)
  have he := he.trans (hx24.sub (jsub_of rfl))
  have hb7 := hb7.mono hx24.1
  refine J_aload_n dX2_init_27 rfl ?_
  refine J_iconst (v := 0) dX2_init_28 (by decide) ?_
  refine Jc_put jf_X2_26 jt_X2_4 dX2_init_29 hq rfl rfl (Nat.le_of_ble_eq_true rfl) (fun _ h => by cases h) hW (fun V29 hq hW hx29 hB29 => ?_)
  have he := he.trans (hx29.sub (jsub_of rfl))
  have hb7 := hb7.mono hx29.1
  refine J_aload_n dX2_init_32 rfl ?_
  refine J_iconst (v := 0) dX2_init_33 (by decide) ?_
  refine Jc_put jf_X2_29 jt_X2_5 dX2_init_34 hq rfl rfl (Nat.le_of_ble_eq_true rfl) (fun _ h => by cases h) hW (fun V34 hq hW hx34 hB34 => ?_)
  have he := he.trans (hx34.sub (jsub_of rfl))
  have hb7 := hb7.mono hx34.1
  refine J_aload_n dX2_init_37 rfl ?_
  refine J_iconst (v := 0) dX2_init_38 (by decide) ?_
  refine Jc_put jf_X2_32 jt_X2_6 dX2_init_39 hq rfl rfl (Nat.le_of_ble_eq_true rfl) (fun _ h => by cases h) hW (fun V39 hq hW hx39 hB39 => ?_)
  have he := he.trans (hx39.sub (jsub_of rfl))
  have hb7 := hb7.mono hx39.1
  refine J_aload_n dX2_init_42 rfl ?_
  refine J_iconst (v := 0) dX2_init_43 (by decide) ?_
  refine Jc_put jf_X2_35 jt_X2_7 dX2_init_44 hq rfl rfl (Nat.le_of_ble_eq_true rfl) (fun _ h => by cases h) hW (fun V44 hq hW hx44 hB44 => ?_)
  have he := he.trans (hx44.sub (jsub_of rfl))
  have hb7 := hb7.mono hx44.1
  refine J_aload_n dX2_init_47 rfl ?_
  refine J_iconst (v := 0) dX2_init_48 (by decide) ?_
  refine Jc_put jf_X2_39 jt_X2_8 dX2_init_49 hq rfl rfl (Nat.le_of_ble_eq_true rfl) (fun _ h => by cases h) hW (fun V49 hq hW hx49 hB49 => ?_)
  have he := he.trans (hx49.sub (jsub_of rfl))
  have hb7 := hb7.mono hx49.1
  have hW := hW.fin hq (jokO_cons ⟨_, rfl, hb7⟩ (jokO_cons ⟨_, rfl, (j_rng _).1, (j_rng _).2⟩ (jokO_cons ⟨_, rfl, (j_rng _).1, (j_rng _).2⟩ (jokO_cons ⟨_, rfl⟩ (jokO_cons ⟨_, rfl, (j_rng _).1, (j_rng _).2⟩ (jokO_cons ⟨_, rfl, (j_rng _).1, (j_rng _).2⟩ (jokO_cons ⟨_, rfl, (j_rng _).1, (j_rng _).2⟩ (jokO_cons ⟨_, rfl, by first | decide | assumption | omega, by first | decide | assumption | omega⟩ (jokO_cons ⟨_, rfl, by first | decide | assumption | omega, by first | decide | assumption | omega⟩ (jokO_nil))))))))))
  have hq0 : jis _ (.inr 0) q := ⟨_, hq, rfl⟩
  obtain ⟨fsq, hOq, hFq0⟩ : ∃ fs : List Value, V49 q = some (.inr (0, fs)) ∧ fs[0]? = some (.ref b7) := ⟨_, hq, rfl⟩
  have hKq : jokO V49 (jFs 0) fsq := hW _ _ hnp hOq
  refine J_aload_n dX2_init_52 rfl ?_
  refine J_iconst (v := 2) dX2_init_53 (by decide) ?_
  refine J_iconst (v := 2) dX2_init_54 (by decide) ?_
  refine Jw_callV2 (q9 := (RX2, TX2, 9)) moX2_lay jw_ml_X2_42 jw_im_X2_lay jw_se_X2_lay hq0 rfl rfl dX2_init_55 (w_X2_lay_z (d - 1) _ _ _ _ (by omega) hW hnp hq0 (by decide) (by decide) (by decide) (by decide)) (by omega) (Nat.zero_le _) (Nat.zero_le _) (Nat.le_of_ble_eq_true rfl) (fun r55 V55 h55 => ?_)
  obtain ⟨⟨hW, hx55, hr55⟩, ⟨op55, hop55, hbt55⟩, ⟨w55, hw55, hwe55⟩, ⟨z55, hz55, hze55⟩⟩ := h55
  have he := he.trans (hx55.sub (jsub_of rfl))
  have hq0 := hq0.mono hx55.1
  cases hr55
  · exact J_ret (r := none) dX2_init_58 ⟨rfl, rfl⟩ (⟨rfl, hW, he, hq0, ⟨_, _, _, hw55, hz55, hop55, hwe55, hze55, hbt55⟩⟩)
set_option maxRecDepth 100000 in
set_option maxHeartbeats 4000000 in
theorem w_X6_init {tS : jTS} (d : Nat) (V0 : jH) (q : Nat)  (hd : 4 ≤ d) (hW : WTx (fun a => False ∨ a = q) V0) (hq : V0 q = some (.inr (4, [.null, .int 0, .null, .null, .null, .null, .null])))   : jTot tS mX6_init d [.ref q] V0 11 676 (fun r V => r = none ∧ WTx (fun _ => False) V ∧ jeff [.inr 4, .inr 1, .inr 0] V0 V ∧ jis V (.inr 4) q ∧ jfI V q 4 1 0 ∧ (jpx V q ∧ jtx V q)) := by
  refine jTot.of_J [some (.ref q)] moX6_init (Nat.le_of_ble_eq_true rfl) rfl ?_
  have he : jeff [.inr 4, .inr 1, .inr 0] V0 V0 := jeff.refl _ _
  refine J_aload_n dX6_init_0 rfl ?_
  refine J_objInit jw_ml_X6_1 jw_oi2 jw_oi3 dX6_init_1 (by omega) (Nat.le_of_ble_eq_true rfl) ?_
  refine J_aload_n dX6_init_4 rfl ?_
  refine J_bipush (v := 16) dX6_init_5 (by decide) ?_
  refine Jc_newq (N := 16) jw_cl_X6_9 (by decide) (t := 4) rfl dX6_init_7 (by decide) (by decide) (by decide) (jok_zR rfl (fun m h => by cases h <;> rfl) (by decide)) (by decide) (by decide) hW (fun b7 V7 hn7 hb7 hk7 hW hx7 => ?_)
  have hz7 := he.1.none hn7
  have he := he.trans (hx7.sub (jsub_of rfl))
  have hq := hk7 _ _ hq
  refine Jc_putF jf_X6_11 jt_X6_0 rfl (fun _ h => by cases h; rfl) dX6_init_10 hq rfl rfl (Nat.le_of_ble_eq_true rfl) (fun _ h => by cases h) hW (fun V10 hq hW hx10 hB10 => ?_)
  have he := he.trans (hx10.sub (jsub_of rfl))
  have hb7 := hb7.mono hx10.1
  refine J_aload_n dX6_init_13 rfl ?_
  refine J_iconst (v := 0) dX6_init_14 (by decide) ?_
  refine Jc_put jf_X6_15 jt_X6_1 dX6_init_15 hq rfl rfl (Nat.le_of_ble_eq_true rfl) (fun _ h => by cases h) hW (fun V15 hq hW hx15 hB15 => ?_)
  have he := he.trans (hx15.sub (jsub_of rfl))
  have hb7 := hb7.mono hx15.1
  refine J_aload_n dX6_init_18 rfl ?_
  refine Jc_new jn_X6_9 dX6_init_19 (by decide) (by decide) hW (fun q19 V19 hn19 hQ19 hk19 hW hx19 => ?_)
  have hne19 : q19 ≠ q := fun z => by rw [z, hq] at hn19; cases hn19
  have hz19 := he.1.none hn19
  have he := he.trans (hx19.sub (jsub_of rfl))
  have hb7 := hb7.mono hx19.1
  have hq := hk19 _ _ hq
  refine J_dup dX6_init_22 rfl ?_
  refine J_bipush (v := 120) dX6_init_23 (by decide) ?_
  refine J_callI1 moX3_init rfl rfl jw_ml_X6_19 jw_im_X3_init dX6_init_25 (w_X3_init (d - 1) _ (fun a => False ∨ a = q) _ _ (by omega) hW hQ19 (fun z => z.elim id hne19)) (by omega) (by decide) (by decide) (Nat.le_of_ble_eq_true rfl) (fun r25 V25 h25 => ?_)
  obtain ⟨rfl, hW, hx25, hj25, hxc25⟩ := h25
  have he := he.trans (hx25.sub (jsub_of rfl))
  have hb7 := hb7.mono hx25.1
  have hq := hx25.2 _ _ hq (jnot_of rfl)
  obtain ⟨s9, x9, y9, z9, -, hjw, -⟩ := hxc25
  rw [show (jmost 120).toInt.toNat = 120 by decide] at hjw
  refine Jc_putF jf_X6_22 jt_X6_2 rfl (fun _ h => by cases h; rfl) dX6_init_28 hq rfl rfl (Nat.le_of_ble_eq_true rfl) (fun _ h => by cases h) hW (fun V28 hq hW hx28 hB28 => ?_)
  have he := he.trans (hx28.sub (jsub_of rfl))
  have hb7 := hb7.mono hx28.1
  have hj25 := hj25.mono hx28.1
  refine J_aload_n dX6_init_31 rfl ?_
  refine J_bipush (v := 60) dX6_init_32 (by decide) ?_
  refine Jc_newa (atype := .int) (t := 7) (B := 60) (x := .inl (fun _ => 0)) jw_ac_int rfl (fun _ h => by cases h) (by decide) dX6_init_34 (by decide) (by decide) (by decide) (fun _ _ => rfl) (fun hN => jok_zI rfl (by decide) (by decide) (fun m h => by cases h <;> rfl) hN) (by decide) (by decide) hW (fun b34 V34 hn34 hb34 hk34 hW hx34 => ?_)
  have hz34 := he.1.none hn34
  have he := he.trans (hx34.sub (jsub_of rfl))
  have hb7 := hb7.mono hx34.1
  have hj25 := hj25.mono hx34.1
  have hq := hk34 _ _ hq
  refine Jc_putF jf_X6_26 jt_X6_3 rfl (fun _ h => by cases h; rfl) dX6_init_36 hq rfl rfl (Nat.le_of_ble_eq_true rfl) (fun _ h => by cases h) hW (fun V36 hq hW hx36 hB36 => ?_)
  have he := he.trans (hx36.sub (jsub_of rfl))
  have hb7 := hb7.mono hx36.1
  have hj25 := hj25.mono hx36.1
  have hb34 := hb34.mono hx36.1
  refine J_aload_n dX6_init_39 rfl ?_
  refine J_bipush (v := 60) dX6_init_40 (by decide) ?_
  refine Jc_newa (atype := .int) (t := 7) (B := 60) (x := .inl (fun _ => 0)) jw_ac_int rfl (fun _ h => by cases h) (by decide) dX6_init_42 (by decide) (by decide) (by decide) (fun _ _ => rfl) (fun hN => jok_zI rfl (by decide) (by decide) (fun m h => by cases h <;> rfl) hN) (by decide) (by decide) hW (fun b42 V42 hn42 hb42 hk42 hW hx42 => ?_)
  have hz42 := he.1.none hn42
  have he := he.trans (hx42.sub (jsub_of rfl))
  have hb7 := hb7.mono hx42.1
  have hj25 := hj25.mono hx42.1
  have hb34 := hb34.mono hx42.1
  have hq := hk42 _ _ hq
  refine Jc_putF jf_X6_30 jt_X6_4 rfl (fun _ h => by cases h; rfl) dX6_init_44 hq rfl rfl (Nat.le_of_ble_eq_true rfl) (fun _ h => by cases h) hW (fun V44 hq hW hx44 hB44 => ?_)
  have he := he.trans (hx44.sub (jsub_of rfl))
  have hb7 := hb7.mono hx44.1
  have hj25 := hj25.mono hx44.1
  have hb34 := hb34.mono hx44.1
  have hb42 := hb42.mono hx44.1
  refine J_aload_n dX6_init_47 rfl ?_
  refine J_iconst (v := 4) dX6_init_48 (by decide) ?_
  refine Jc_newq (N := 4) jw_cl_X6_33 (by decide) (t := 5) rfl dX6_init_49 (by decide) (by decide) (by decide) (jok_zR rfl (fun m h => by cases h <;> rfl) (by decide)) (by decide) (by decide) hW (fun b49 V49 hn49 hb49 hk49 hW hx49 => ?_)
  have hz49 := he.1.none hn49
  have he := he.trans (hx49.sub (jsub_of rfl))
  have hb7 := hb7.mono hx49.1
  have hj25 := hj25.mono hx49.1
  have hb34 := hb34.mono hx49.1
  have hb42 := hb42.mono hx49.1
  have hq := hk49 _ _ hq
  refine Jc_putF jf_X6_35 jt_X6_5 rfl (fun _ h => by cases h; rfl) dX6_init_52 hq rfl rfl (Nat.le_of_ble_eq_true rfl) (fun _ h => by cases h) hW (fun V52 hq hW hx52 hB52 => ?_)
  have he := he.trans (hx52.sub (jsub_of rfl))
  have hb7 := hb7.mono hx52.1
  have hj25 := hj25.mono hx52.1
  have hb34 := hb34.mono hx52.1
  have hb42 := hb42.mono hx52.1
  have hb49 := hb49.mono hx52.1
  refine J_aload_n dX6_init_55 rfl ?_
  refine Jc_new jn_X6_39 dX6_init_56 (by decide) (by decide) hW (fun q56 V56 hn56 hQ56 hk56 hW hx56 => ?_)
  have hne56 : q56 ≠ q := fun z => by rw [z, hq] at hn56; cases hn56
  have hz56 := he.1.none hn56
  have he := he.trans (hx56.sub (jsub_of rfl))
  have hb7 := hb7.mono hx56.1
  have hj25 := hj25.mono hx56.1
  have hb34 := hb34.mono hx56.1
  have hb42 := hb42.mono hx56.1
  have hb49 := hb49.mono hx56.1
  have hq := hk56 _ _ hq
  refine J_dup dX6_init_59 rfl ?_
  refine J_callI0 moX2_init rfl rfl jw_ml_X6_41 jw_im_X2_init dX6_init_60 (w_X2_init (d - 1) _ (fun a => False ∨ a = q) _ (by omega) hW hQ56 (fun z => z.elim id hne56)) (by omega) (by decide) (by decide) (Nat.le_of_ble_eq_true rfl) (fun r60 V60 h60 => ?_)
  obtain ⟨rfl, hW, hx60, hj60, hxc60⟩ := h60
  have he := he.trans (hx60.sub (jsub_of rfl))
  have hb7 := hb7.mono hx60.1
  have hj25 := hj25.mono hx60.1
  have hb34 := hb34.mono hx60.1
  have hb42 := hb42.mono hx60.1
  have hb49 := hb49.mono hx60.1
  have hq := hx60.2 _ _ hq (jnot_of rfl)
  refine Jc_putF jf_X6_42 jt_X6_6 rfl (fun _ h => by cases h; rfl) dX6_init_63 hq rfl rfl (Nat.le_of_ble_eq_true rfl) (fun _ h => by cases h) hW (fun V63 hq hW hx63 hB63 => ?_)
  have he := he.trans (hx63.sub (jsub_of rfl))
  have hb7 := hb7.mono hx63.1
  have hj25 := hj25.mono hx63.1
  have hb34 := hb34.mono hx63.1
  have hb42 := hb42.mono hx63.1
  have hb49 := hb49.mono hx63.1
  have hj60 := hj60.mono hx63.1
  exact J_ret (r := none) dX6_init_66 ⟨rfl, rfl⟩ (⟨rfl, hW.fin hq (jokO_cons ⟨_, rfl, hb7⟩ (jokO_cons ⟨_, rfl, by first | decide | assumption | omega, by first | decide | assumption | omega⟩ (jokO_cons ⟨_, rfl, hj25⟩ (jokO_cons ⟨_, rfl, hb34⟩ (jokO_cons ⟨_, rfl, hb42⟩ (jokO_cons ⟨_, rfl, hb49⟩ (jokO_cons ⟨_, rfl, hj60⟩ (jokO_nil)))))))), he, ⟨_, hq, rfl⟩, ⟨_, hq, rfl⟩, ⟨⟨_, _, hq, rfl, hxc60.keep hx63 (jnot_of rfl)⟩, ⟨q19, s9, x9, y9, z9, ⟨_, hq, rfl⟩, ((((((((((hjw.keep hx28 (jdis_of rfl)).keep hx34 (jdis_of rfl)).keep hx36 (jdis_of rfl)).keep hx42 (jdis_of rfl)).keep hx44 (jdis_of rfl)).keep hx49 (jdis_of rfl)).keep hx52 (jdis_of rfl)).keep hx56 (jdis_of rfl)).keep hx60 (jdis_of rfl)).keep hx63 (jdis_of rfl))⟩⟩⟩)
